theorem dX10_period_8 : decode cX10_period 8 = .ok (.istore 4, 2) := by decide +kernel
theorem dX10_period_10 : decode cX10_period 10 = .ok (.iload 4, 2) := by decide +kernel
theorem dX10_period_12 : decode cX10_period 12 = .ok (.ifCond .ge 6, 3) := by decide +kernel
theorem dX10_period_15 : decode cX10_period 15 = .ok (.iload 4, 2) := by decide +kernel
theorem dX10_period_17 : decode cX10_period 17 = .ok (.ireturn, 1) := by decide +kernel
theorem dX10_period_18 : decode cX10_period 18 = .ok (.aload_n 0, 1) := by decide +kernel
theorem dX10_period_19 : decode cX10_period 19 = .ok (.iload_n 1, 1) := by decide +kernel
theorem dX10_period_20 : decode cX10_period 20 = .ok (.iload_n 2, 1) := by decide +kernel
theorem dX10_period_21 : decode cX10_period 21 = .ok (.iload_n 3, 1) := by decide +kernel
theorem dX10_period_22 : decode cX10_period 22 = .ok (.invokevirtual 117, 3) := by decide +kernel
theorem dX10_period_25 : decode cX10_period 25 = .ok (.aload_n 0, 1) := by decide +kernel
theorem dX10_period_26 : decode cX10_period 26 = .ok (.getfield 110, 3) := by decide +kernel
theorem dX10_period_29 : decode cX10_period 29 = .ok (.ireturn, 1) := by decide +kernel
set_option maxRecDepth 20000 in
theorem ggX10_finite_X10_chosenDigit : GoodIn wsX10_finite wsX10_chosenDigit := goodIn_r _ [7, 8, 9, 10, 11, 6, 12, 13, 14, 15, 16, 17, 18, 19, 20, 21, 35, 36, 37, 38, 39, 40, 41, 42, 43, 44, 45, 46, 47, 48, 49, 50, 51, 52, 53, 54, 55] (by decide +kernel) (by decide +kernel)
set_option maxRecDepth 20000 in
theorem gX10_finite_X10_chosenDigit : GoodIn wsX10_finite (wsV RX10 93 RX10 yX10_chosenDigit wsX10_chosenDigit) := goodIn_app (goodIn_of _ (by decide +kernel)) ggX10_finite_X10_chosenDigit
set_option maxRecDepth 20000 in
theorem ggX10_finite_X10_findPeriod : GoodIn wsX10_finite wsX10_findPeriod := goodIn_r _ [25, 1, 2, 26, 27, 28, 6, 29, 30, 18, 31, 32, 33, 34, 13, 8, 19, 20, 21, 35, 36, 37, 38, 39, 40, 41, 42, 43, 44, 45, 46, 47, 48, 49, 50, 51, 52, 53, 54, 55] (by decide +kernel) (by decide +kernel)
set_option maxRecDepth 20000 in
theorem gX10_finite_X10_findPeriod : GoodIn wsX10_finite (wsV RX10 117 RX10 yX10_findPeriod wsX10_findPeriod) := goodIn_app (goodIn_of _ (by decide +kernel)) ggX10_finite_X10_findPeriod
set_option maxRecDepth 20000 in
theorem ggX10_finite_X10_step : GoodIn wsX10_finite wsX10_step := goodIn_r _ [29, 30, 18, 31, 32, 33, 6, 34, 13, 8, 19, 20, 21, 35, 36, 37, 38, 39, 40, 41, 42, 43, 44, 45, 46, 47, 48, 49, 50, 51, 52, 53, 54, 55] (by decide +kernel) (by decide +kernel)
set_option maxRecDepth 20000 in
theorem gX10_finite_X10_step : GoodIn wsX10_finite (wsV RX10 103 RX10 yX10_step wsX10_step) := goodIn_app (goodIn_of _ (by decide +kernel)) ggX10_finite_X10_step
theorem dX10_finite_0 : decode cX10_finite 0 = .ok (.aload_n 0, 1) := by decide +kernel
theorem dX10_finite_1 : decode cX10_finite 1 = .ok (.iload_n 1, 1) := by decide +kernel
theorem dX10_finite_2 : decode cX10_finite 2 = .ok (.iconst 0, 1) := by decide +kernel
theorem dX10_finite_3 : decode cX10_finite 3 = .ok (.invokevirtual 93, 3) := by decide +kernel
theorem dX10_finite_6 : decode cX10_finite 6 = .ok (.ifCond .eq 5, 3) := by decide +kernel
theorem dX10_finite_9 : decode cX10_finite 9 = .ok (.iconst (-1), 1) := by decide +kernel
theorem dX10_finite_10 : decode cX10_finite 10 = .ok (.ireturn, 1) := by decide +kernel
theorem dX10_finite_11 : decode cX10_finite 11 = .ok (.aload_n 0, 1) := by decide +kernel
theorem dX10_finite_12 : decode cX10_finite 12 = .ok (.iload_n 1, 1) := by decide +kernel
theorem dX10_finite_13 : decode cX10_finite 13 = .ok (.iload_n 2, 1) := by decide +kernel
theorem dX10_finite_14 : decode cX10_finite 14 = .ok (.iload_n 3, 1) := by decide +kernel
theorem dX10_finite_15 : decode cX10_finite 15 = .ok (.invokevirtual 117, 3) := by decide +kernel
theorem dX10_finite_18 : decode cX10_finite 18 = .ok (.iload_n 2, 1) := by decide +kernel
theorem dX10_finite_19 : decode cX10_finite 19 = .ok (.istore 4, 2) := by decide +kernel
theorem dX10_finite_21 : decode cX10_finite 21 = .ok (.iconst 0, 1) := by decide +kernel
theorem dX10_finite_22 : decode cX10_finite 22 = .ok (.istore 5, 2) := by decide +kernel
theorem dX10_finite_24 : decode cX10_finite 24 = .ok (.iload 5, 2) := by decide +kernel
theorem dX10_finite_26 : decode cX10_finite 26 = .ok (.aload_n 0, 1) := by decide +kernel
theorem dX10_finite_27 : decode cX10_finite 27 = .ok (.getfield 106, 3) := by decide +kernel
theorem dX10_finite_30 : decode cX10_finite 30 = .ok (.aload_n 0, 1) := by decide +kernel
theorem dX10_finite_31 : decode cX10_finite 31 = .ok (.getfield 110, 3) := by decide +kernel
theorem dX10_finite_34 : decode cX10_finite 34 = .ok (.iadd, 1) := by decide +kernel
theorem dX10_finite_35 : decode cX10_finite 35 = .ok (.if_icmp .ge 27, 3) := by decide +kernel
theorem dX10_finite_38 : decode cX10_finite 38 = .ok (.iload 4, 2) := by decide +kernel
theorem dX10_finite_40 : decode cX10_finite 40 = .ok (.ifCond .ne 6, 3) := by decide +kernel
theorem dX10_finite_43 : decode cX10_finite 43 = .ok (.iload 5, 2) := by decide +kernel
theorem dX10_finite_45 : decode cX10_finite 45 = .ok (.ireturn, 1) := by decide +kernel
theorem dX10_finite_46 : decode cX10_finite 46 = .ok (.aload_n 0, 1) := by decide +kernel
theorem dX10_finite_47 : decode cX10_finite 47 = .ok (.iload_n 1, 1) := by decide +kernel
theorem dX10_finite_48 : decode cX10_finite 48 = .ok (.iload 4, 2) := by decide +kernel
theorem dX10_finite_50 : decode cX10_finite 50 = .ok (.iload_n 3, 1) := by decide +kernel
theorem dX10_finite_51 : decode cX10_finite 51 = .ok (.invokevirtual 103, 3) := by decide +kernel
theorem dX10_finite_54 : decode cX10_finite 54 = .ok (.istore 4, 2) := by decide +kernel
theorem dX10_finite_56 : decode cX10_finite 56 = .ok (.iinc 5 1, 3) := by decide +kernel
theorem dX10_finite_59 : decode cX10_finite 59 = .ok (.goto (-35), 3) := by decide +kernel
theorem dX10_finite_62 : decode cX10_finite 62 = .ok (.iconst (-1), 1) := by decide +kernel
theorem dX10_finite_63 : decode cX10_finite 63 = .ok (.ireturn, 1) := by decide +kernel
set_option maxRecDepth 20000 in
theorem ggX10_length_X10_fractionBarred : GoodIn wsX10_length wsX10_fractionBarred := goodIn_r _ [6, 7, 8, 9, 10, 11, 12, 13, 14, 15, 16, 5, 17, 18, 19, 20, 21, 22, 23, 24, 25, 26, 27, 28, 29, 30, 31, 32, 33, 34, 35, 36, 37, 38, 39, 40, 64, 65, 66, 67, 68, 69, 70, 71, 72, 73, 74, 75, 76, 77, 78, 79, 80, 81, 82, 83, 84] (by decide +kernel) (by decide +kernel)
set_option maxRecDepth 20000 in
theorem gX10_length_X10_fractionBarred : GoodIn wsX10_length (wsV RX10 120 RX10 yX10_fractionBarred wsX10_fractionBarred) := goodIn_app (goodIn_of _ (by decide +kernel)) ggX10_length_X10_fractionBarred
set_option maxRecDepth 20000 in
theorem ggX10_length_X10_finite : GoodIn wsX10_length wsX10_finite := goodIn_r _ [44, 45, 46, 47, 48, 49, 5, 50, 33, 28, 29, 30, 31, 32, 34, 35, 36, 37, 13, 25, 26, 27, 51, 52, 53, 54, 55, 56, 57, 58, 59, 60, 61, 62, 63, 64, 65, 66, 67, 68, 69, 70, 71, 72, 73, 74, 75, 76, 77, 78, 79, 80, 81, 82, 83, 84] (by decide +kernel) (by decide +kernel)
set_option maxRecDepth 20000 in
theorem gX10_length_X10_finite : GoodIn wsX10_length (wsV RX10 127 RX10 yX10_finite wsX10_finite) := goodIn_app (goodIn_of _ (by decide +kernel)) ggX10_length_X10_finite
theorem dX10_length_0 : decode cX10_length 0 = .ok (.aload_n 0, 1) := by decide +kernel
theorem dX10_length_1 : decode cX10_length 1 = .ok (.iload_n 1, 1) := by decide +kernel
theorem dX10_length_2 : decode cX10_length 2 = .ok (.iload_n 2, 1) := by decide +kernel
theorem dX10_length_3 : decode cX10_length 3 = .ok (.iload_n 3, 1) := by decide +kernel
theorem dX10_length_4 : decode cX10_length 4 = .ok (.iconst 0, 1) := by decide +kernel
theorem dX10_length_5 : decode cX10_length 5 = .ok (.invokevirtual 120, 3) := by decide +kernel
theorem dX10_length_8 : decode cX10_length 8 = .ok (.istore 4, 2) := by decide +kernel
theorem dX10_length_10 : decode cX10_length 10 = .ok (.iload 4, 2) := by decide +kernel
theorem dX10_length_12 : decode cX10_length 12 = .ok (.ifCond .ge 6, 3) := by decide +kernel
theorem dX10_length_15 : decode cX10_length 15 = .ok (.iload 4, 2) := by decide +kernel
theorem dX10_length_17 : decode cX10_length 17 = .ok (.ireturn, 1) := by decide +kernel
theorem dX10_length_18 : decode cX10_length 18 = .ok (.aload_n 0, 1) := by decide +kernel
theorem dX10_length_19 : decode cX10_length 19 = .ok (.iload_n 1, 1) := by decide +kernel
theorem dX10_length_20 : decode cX10_length 20 = .ok (.iload_n 2, 1) := by decide +kernel
theorem dX10_length_21 : decode cX10_length 21 = .ok (.iload_n 3, 1) := by decide +kernel
theorem dX10_length_22 : decode cX10_length 22 = .ok (.invokevirtual 127, 3) := by decide +kernel
theorem dX10_length_25 : decode cX10_length 25 = .ok (.istore 5, 2) := by decide +kernel
theorem dX10_length_27 : decode cX10_length 27 = .ok (.iload 5, 2) := by decide +kernel
theorem dX10_length_29 : decode cX10_length 29 = .ok (.ifCond .ge 8, 3) := by decide +kernel
theorem dX10_length_32 : decode cX10_length 32 = .ok (.ldc 92, 2) := by decide +kernel
theorem dX10_length_34 : decode cX10_length 34 = .ok (.goto 5, 3) := by decide +kernel
theorem dX10_length_37 : decode cX10_length 37 = .ok (.iload 5, 2) := by decide +kernel
theorem dX10_length_39 : decode cX10_length 39 = .ok (.ireturn, 1) := by decide +kernel
set_option maxRecDepth 20000 in
theorem ggX10_findCycles_X10_findPeriod : GoodIn wsX10_findCycles wsX10_findPeriod := goodIn_r _ [11, 3, 2, 12, 13, 14, 10, 15, 16, 17, 18, 19, 20, 21, 22, 23, 24, 25, 26, 27, 28, 29, 30, 31, 32, 33, 34, 35, 36, 37, 38, 39, 40, 41, 42, 43, 44, 45, 46, 47] (by decide +kernel) (by decide +kernel)
set_option maxRecDepth 20000 in
theorem gX10_findCycles_X10_findPeriod : GoodIn wsX10_findCycles (wsV RX10 117 RX10 yX10_findPeriod wsX10_findPeriod) := goodIn_app (goodIn_of _ (by decide +kernel)) ggX10_findCycles_X10_findPeriod
set_option maxRecDepth 20000 in
theorem ggX10_findCycles_X10_step : GoodIn wsX10_findCycles wsX10_step := goodIn_r _ [15, 16, 17, 18, 19, 20, 10, 21, 22, 23, 24, 25, 26, 27, 28, 29, 30, 31, 32, 33, 34, 35, 36, 37, 38, 39, 40, 41, 42, 43, 44, 45, 46, 47] (by decide +kernel) (by decide +kernel)
set_option maxRecDepth 20000 in
theorem gX10_findCycles_X10_step : GoodIn wsX10_findCycles (wsV RX10 103 RX10 yX10_step wsX10_step) := goodIn_app (goodIn_of _ (by decide +kernel)) ggX10_findCycles_X10_step
theorem dX10_findCycles_0 : decode cX10_findCycles 0 = .ok (.aload_n 0, 1) := by decide +kernel
theorem dX10_findCycles_1 : decode cX10_findCycles 1 = .ok (.iconst 0, 1) := by decide +kernel
theorem dX10_findCycles_2 : decode cX10_findCycles 2 = .ok (.putfield 130, 3) := by decide +kernel
theorem dX10_findCycles_5 : decode cX10_findCycles 5 = .ok (.bipush (-25), 2) := by decide +kernel
theorem dX10_findCycles_7 : decode cX10_findCycles 7 = .ok (.istore_n 2, 1) := by decide +kernel
theorem dX10_findCycles_8 : decode cX10_findCycles 8 = .ok (.iload_n 2, 1) := by decide +kernel
theorem dX10_findCycles_9 : decode cX10_findCycles 9 = .ok (.bipush 25, 2) := by decide +kernel
theorem dX10_findCycles_11 : decode cX10_findCycles 11 = .ok (.if_icmp .gt 144, 3) := by decide +kernel
theorem dX10_findCycles_14 : decode cX10_findCycles 14 = .ok (.aload_n 0, 1) := by decide +kernel
theorem dX10_findCycles_15 : decode cX10_findCycles 15 = .ok (.iload_n 1, 1) := by decide +kernel
theorem dX10_findCycles_16 : decode cX10_findCycles 16 = .ok (.iload_n 2, 1) := by decide +kernel
theorem dX10_findCycles_17 : decode cX10_findCycles 17 = .ok (.iconst 1, 1) := by decide +kernel
theorem dX10_findCycles_18 : decode cX10_findCycles 18 = .ok (.invokevirtual 117, 3) := by decide +kernel
theorem dX10_findCycles_21 : decode cX10_findCycles 21 = .ok (.iload_n 2, 1) := by decide +kernel
theorem dX10_findCycles_22 : decode cX10_findCycles 22 = .ok (.istore_n 3, 1) := by decide +kernel
theorem dX10_findCycles_23 : decode cX10_findCycles 23 = .ok (.iload_n 2, 1) := by decide +kernel
theorem dX10_findCycles_24 : decode cX10_findCycles 24 = .ok (.istore 4, 2) := by decide +kernel
theorem dX10_findCycles_26 : decode cX10_findCycles 26 = .ok (.iload_n 2, 1) := by decide +kernel
theorem dX10_findCycles_27 : decode cX10_findCycles 27 = .ok (.istore 5, 2) := by decide +kernel
theorem dX10_findCycles_29 : decode cX10_findCycles 29 = .ok (.iconst 1, 1) := by decide +kernel
theorem dX10_findCycles_30 : decode cX10_findCycles 30 = .ok (.istore 6, 2) := by decide +kernel
theorem dX10_findCycles_32 : decode cX10_findCycles 32 = .ok (.iload 6, 2) := by decide +kernel
theorem dX10_findCycles_34 : decode cX10_findCycles 34 = .ok (.aload_n 0, 1) := by decide +kernel
theorem dX10_findCycles_35 : decode cX10_findCycles 35 = .ok (.getfield 110, 3) := by decide +kernel
theorem dX10_findCycles_38 : decode cX10_findCycles 38 = .ok (.if_icmp .ge 55, 3) := by decide +kernel
theorem dX10_findCycles_41 : decode cX10_findCycles 41 = .ok (.aload_n 0, 1) := by decide +kernel
theorem dX10_findCycles_42 : decode cX10_findCycles 42 = .ok (.getfield 106, 3) := by decide +kernel
theorem dX10_findCycles_45 : decode cX10_findCycles 45 = .ok (.ifCond .ne 48, 3) := by decide +kernel
theorem dX10_findCycles_48 : decode cX10_findCycles 48 = .ok (.aload_n 0, 1) := by decide +kernel
theorem dX10_findCycles_49 : decode cX10_findCycles 49 = .ok (.iload_n 1, 1) := by decide +kernel
theorem dX10_findCycles_50 : decode cX10_findCycles 50 = .ok (.iload 5, 2) := by decide +kernel
theorem dX10_findCycles_52 : decode cX10_findCycles 52 = .ok (.iconst 1, 1) := by decide +kernel
theorem dX10_findCycles_53 : decode cX10_findCycles 53 = .ok (.invokevirtual 103, 3) := by decide +kernel
theorem dX10_findCycles_56 : decode cX10_findCycles 56 = .ok (.istore 5, 2) := by decide +kernel
theorem dX10_findCycles_58 : decode cX10_findCycles 58 = .ok (.iload 5, 2) := by decide +kernel
theorem dX10_findCycles_60 : decode cX10_findCycles 60 = .ok (.iload_n 3, 1) := by decide +kernel
theorem dX10_findCycles_61 : decode cX10_findCycles 61 = .ok (.if_icmp .ge 8, 3) := by decide +kernel
theorem dX10_findCycles_64 : decode cX10_findCycles 64 = .ok (.iload 5, 2) := by decide +kernel
theorem dX10_findCycles_66 : decode cX10_findCycles 66 = .ok (.goto 4, 3) := by decide +kernel
theorem dX10_findCycles_69 : decode cX10_findCycles 69 = .ok (.iload_n 3, 1) := by decide +kernel
theorem dX10_findCycles_70 : decode cX10_findCycles 70 = .ok (.istore_n 3, 1) := by decide +kernel
theorem dX10_findCycles_71 : decode cX10_findCycles 71 = .ok (.iload 5, 2) := by decide +kernel
theorem dX10_findCycles_73 : decode cX10_findCycles 73 = .ok (.iload 4, 2) := by decide +kernel
theorem dX10_findCycles_75 : decode cX10_findCycles 75 = .ok (.if_icmp .le 8, 3) := by decide +kernel
theorem dX10_findCycles_78 : decode cX10_findCycles 78 = .ok (.iload 5, 2) := by decide +kernel
theorem dX10_findCycles_80 : decode cX10_findCycles 80 = .ok (.goto 5, 3) := by decide +kernel
theorem dX10_findCycles_83 : decode cX10_findCycles 83 = .ok (.iload 4, 2) := by decide +kernel
theorem dX10_findCycles_85 : decode cX10_findCycles 85 = .ok (.istore 4, 2) := by decide +kernel
theorem dX10_findCycles_87 : decode cX10_findCycles 87 = .ok (.iinc 6 1, 3) := by decide +kernel
theorem dX10_findCycles_90 : decode cX10_findCycles 90 = .ok (.goto (-58), 3) := by decide +kernel
theorem dX10_findCycles_93 : decode cX10_findCycles 93 = .ok (.aload_n 0, 1) := by decide +kernel
theorem dX10_findCycles_94 : decode cX10_findCycles 94 = .ok (.getfield 106, 3) := by decide +kernel
theorem dX10_findCycles_97 : decode cX10_findCycles 97 = .ok (.ifCond .ne 52, 3) := by decide +kernel
theorem dX10_findCycles_100 : decode cX10_findCycles 100 = .ok (.iload_n 3, 1) := by decide +kernel
theorem dX10_findCycles_101 : decode cX10_findCycles 101 = .ok (.iload_n 2, 1) := by decide +kernel
theorem dX10_findCycles_102 : decode cX10_findCycles 102 = .ok (.if_icmp .ne 47, 3) := by decide +kernel
theorem dX10_findCycles_105 : decode cX10_findCycles 105 = .ok (.aload_n 0, 1) := by decide +kernel
theorem dX10_findCycles_106 : decode cX10_findCycles 106 = .ok (.getfield 22, 3) := by decide +kernel
theorem dX10_findCycles_109 : decode cX10_findCycles 109 = .ok (.aload_n 0, 1) := by decide +kernel
theorem dX10_findCycles_110 : decode cX10_findCycles 110 = .ok (.getfield 130, 3) := by decide +kernel
theorem dX10_findCycles_113 : decode cX10_findCycles 113 = .ok (.iload_n 3, 1) := by decide +kernel
theorem dX10_findCycles_114 : decode cX10_findCycles 114 = .ok (.iastore, 1) := by decide +kernel
theorem dX10_findCycles_115 : decode cX10_findCycles 115 = .ok (.aload_n 0, 1) := by decide +kernel
theorem dX10_findCycles_116 : decode cX10_findCycles 116 = .ok (.getfield 25, 3) := by decide +kernel
theorem dX10_findCycles_119 : decode cX10_findCycles 119 = .ok (.aload_n 0, 1) := by decide +kernel
theorem dX10_findCycles_120 : decode cX10_findCycles 120 = .ok (.getfield 130, 3) := by decide +kernel
theorem dX10_findCycles_123 : decode cX10_findCycles 123 = .ok (.iload 4, 2) := by decide +kernel
theorem dX10_findCycles_125 : decode cX10_findCycles 125 = .ok (.iastore, 1) := by decide +kernel
theorem dX10_findCycles_126 : decode cX10_findCycles 126 = .ok (.aload_n 0, 1) := by decide +kernel
theorem dX10_findCycles_127 : decode cX10_findCycles 127 = .ok (.getfield 28, 3) := by decide +kernel
theorem dX10_findCycles_130 : decode cX10_findCycles 130 = .ok (.aload_n 0, 1) := by decide +kernel
theorem dX10_findCycles_131 : decode cX10_findCycles 131 = .ok (.getfield 130, 3) := by decide +kernel
theorem dX10_findCycles_134 : decode cX10_findCycles 134 = .ok (.aload_n 0, 1) := by decide +kernel
theorem dX10_findCycles_135 : decode cX10_findCycles 135 = .ok (.getfield 110, 3) := by decide +kernel
theorem dX10_findCycles_138 : decode cX10_findCycles 138 = .ok (.iastore, 1) := by decide +kernel
theorem dX10_findCycles_139 : decode cX10_findCycles 139 = .ok (.aload_n 0, 1) := by decide +kernel
theorem dX10_findCycles_140 : decode cX10_findCycles 140 = .ok (.dup, 1) := by decide +kernel
theorem dX10_findCycles_141 : decode cX10_findCycles 141 = .ok (.getfield 130, 3) := by decide +kernel
theorem dX10_findCycles_144 : decode cX10_findCycles 144 = .ok (.iconst 1, 1) := by decide +kernel
theorem dX10_findCycles_145 : decode cX10_findCycles 145 = .ok (.iadd, 1) := by decide +kernel
theorem dX10_findCycles_146 : decode cX10_findCycles 146 = .ok (.putfield 130, 3) := by decide +kernel
theorem dX10_findCycles_149 : decode cX10_findCycles 149 = .ok (.iinc 2 1, 3) := by decide +kernel
theorem dX10_findCycles_152 : decode cX10_findCycles 152 = .ok (.goto (-144), 3) := by decide +kernel
theorem dX10_findCycles_155 : decode cX10_findCycles 155 = .ok (.return_, 1) := by decide +kernel
set_option maxRecDepth 20000 in
theorem ggX10_systemBarred_X10_noSystem : GoodIn wsX10_systemBarred wsX10_noSystem := goodIn_r _ [6, 7, 8, 5, 9] (by decide +kernel) (by decide +kernel)
set_option maxRecDepth 20000 in
theorem gX10_systemBarred_X10_noSystem : GoodIn wsX10_systemBarred (va_wsS RX10 70 yX10_noSystem wsX10_noSystem) := goodIn_app (goodIn_of _ (by decide +kernel)) ggX10_systemBarred_X10_noSystem
set_option maxRecDepth 20000 in
theorem ggX10_systemBarred_X10_isComplete : GoodIn wsX10_systemBarred wsX10_isComplete := goodIn_r _ [13, 14, 15, 16, 5, 17, 18, 19, 20, 21, 22, 23, 24, 25, 26, 27, 28, 29, 30, 31, 32, 33, 34, 35, 36, 37, 38, 39, 40, 41, 42, 43, 44, 45, 46, 47, 48] (by decide +kernel) (by decide +kernel)
set_option maxRecDepth 20000 in
theorem gX10_systemBarred_X10_isComplete : GoodIn wsX10_systemBarred (wsV RX10 96 RX10 yX10_isComplete wsX10_isComplete) := goodIn_app (goodIn_of _ (by decide +kernel)) ggX10_systemBarred_X10_isComplete
theorem dX10_systemBarred_0 : decode cX10_systemBarred 0 = .ok (.iload_n 1, 1) := by decide +kernel
theorem dX10_systemBarred_1 : decode cX10_systemBarred 1 = .ok (.invokestatic 70, 3) := by decide +kernel
theorem dX10_systemBarred_4 : decode cX10_systemBarred 4 = .ok (.ifCond .eq 8, 3) := by decide +kernel
theorem dX10_systemBarred_7 : decode cX10_systemBarred 7 = .ok (.ldc 74, 2) := by decide +kernel
theorem dX10_systemBarred_9 : decode cX10_systemBarred 9 = .ok (.goto 17, 3) := by decide +kernel
theorem dX10_systemBarred_12 : decode cX10_systemBarred 12 = .ok (.aload_n 0, 1) := by decide +kernel
theorem dX10_systemBarred_13 : decode cX10_systemBarred 13 = .ok (.iload_n 1, 1) := by decide +kernel
theorem dX10_systemBarred_14 : decode cX10_systemBarred 14 = .ok (.invokevirtual 96, 3) := by decide +kernel
theorem dX10_systemBarred_17 : decode cX10_systemBarred 17 = .ok (.ifCond .eq 7, 3) := by decide +kernel
theorem dX10_systemBarred_20 : decode cX10_systemBarred 20 = .ok (.iconst 0, 1) := by decide +kernel
theorem dX10_systemBarred_21 : decode cX10_systemBarred 21 = .ok (.goto 5, 3) := by decide +kernel
theorem dX10_systemBarred_24 : decode cX10_systemBarred 24 = .ok (.ldc 116, 2) := by decide +kernel
theorem dX10_systemBarred_26 : decode cX10_systemBarred 26 = .ok (.ireturn, 1) := by decide +kernel
set_option maxRecDepth 20000 in
theorem ggX10_cycleCount_X10_systemBarred : GoodIn wsX10_cycleCount wsX10_systemBarred := goodIn_r _ [6, 7, 8, 9, 10, 5, 11, 12, 13, 14, 15, 16, 17, 18, 19, 20, 21, 22, 23, 24, 25, 26, 27, 28, 29, 30, 31, 32, 55, 56, 57, 58, 59, 60, 61, 62, 63, 64, 65, 66, 67, 68, 69, 70, 71, 72, 73, 74, 75] (by decide +kernel) (by decide +kernel)
set_option maxRecDepth 20000 in
theorem gX10_cycleCount_X10_systemBarred : GoodIn wsX10_cycleCount (wsV RX10 133 RX10 yX10_systemBarred wsX10_systemBarred) := goodIn_app (goodIn_of _ (by decide +kernel)) ggX10_cycleCount_X10_systemBarred
set_option maxRecDepth 20000 in
theorem ggX10_cycleCount_X10_findCycles : GoodIn wsX10_cycleCount wsX10_findCycles := goodIn_r _ [36, 1, 37, 38, 39, 40, 41, 42, 43, 44, 5, 45, 46, 47, 48, 49, 50, 19, 51, 52, 53, 54, 27, 28, 20, 21, 22, 55, 56, 57, 58, 59, 60, 61, 62, 63, 64, 65, 66, 67, 68, 69, 70, 71, 72, 73, 74, 75] (by decide +kernel) (by decide +kernel)
set_option maxRecDepth 20000 in
theorem gX10_cycleCount_X10_findCycles : GoodIn wsX10_cycleCount (wsV RX10 136 RX10 yX10_findCycles wsX10_findCycles) := goodIn_app (goodIn_of _ (by decide +kernel)) ggX10_cycleCount_X10_findCycles
theorem dX10_cycleCount_0 : decode cX10_cycleCount 0 = .ok (.aload_n 0, 1) := by decide +kernel
theorem dX10_cycleCount_1 : decode cX10_cycleCount 1 = .ok (.iload_n 1, 1) := by decide +kernel
theorem dX10_cycleCount_2 : decode cX10_cycleCount 2 = .ok (.invokevirtual 133, 3) := by decide +kernel
theorem dX10_cycleCount_5 : decode cX10_cycleCount 5 = .ok (.istore_n 2, 1) := by decide +kernel
theorem dX10_cycleCount_6 : decode cX10_cycleCount 6 = .ok (.iload_n 2, 1) := by decide +kernel
theorem dX10_cycleCount_7 : decode cX10_cycleCount 7 = .ok (.ifCond .ge 5, 3) := by decide +kernel
theorem dX10_cycleCount_10 : decode cX10_cycleCount 10 = .ok (.iload_n 2, 1) := by decide +kernel
theorem dX10_cycleCount_11 : decode cX10_cycleCount 11 = .ok (.ireturn, 1) := by decide +kernel
theorem dX10_cycleCount_12 : decode cX10_cycleCount 12 = .ok (.aload_n 0, 1) := by decide +kernel
theorem dX10_cycleCount_13 : decode cX10_cycleCount 13 = .ok (.iload_n 1, 1) := by decide +kernel
theorem dX10_cycleCount_14 : decode cX10_cycleCount 14 = .ok (.invokevirtual 136, 3) := by decide +kernel
theorem dX10_cycleCount_17 : decode cX10_cycleCount 17 = .ok (.aload_n 0, 1) := by decide +kernel
theorem dX10_cycleCount_18 : decode cX10_cycleCount 18 = .ok (.getfield 130, 3) := by decide +kernel
theorem dX10_cycleCount_21 : decode cX10_cycleCount 21 = .ok (.ireturn, 1) := by decide +kernel
set_option maxRecDepth 20000 in
theorem ggX10_cycle_X10_noSystem : GoodIn wsX10_cycle wsX10_noSystem := goodIn_r _ [12, 13, 14, 11, 15] (by decide +kernel) (by decide +kernel)
set_option maxRecDepth 20000 in
theorem gX10_cycle_X10_noSystem : GoodIn wsX10_cycle (va_wsS RX10 70 yX10_noSystem wsX10_noSystem) := goodIn_app (goodIn_of _ (by decide +kernel)) ggX10_cycle_X10_noSystem
set_option maxRecDepth 20000 in
theorem ggX10_cycle_X10_in : GoodIn wsX10_cycle wsX10_in := goodIn_r _ [15] (by decide +kernel) (by decide +kernel)
set_option maxRecDepth 20000 in
theorem gX10_cycle_X10_in : GoodIn wsX10_cycle (va_wsS RX10 62 yX10_in wsX10_in) := goodIn_app (goodIn_of _ (by decide +kernel)) ggX10_cycle_X10_in
set_option maxRecDepth 20000 in
theorem ggX10_cycle_X10_isComplete : GoodIn wsX10_cycle wsX10_isComplete := goodIn_r _ [19, 20, 21, 22, 11, 23, 24, 25, 26, 27, 28, 29, 30, 31, 32, 33, 53, 54, 55, 56, 57, 58, 59, 60, 61, 62, 63, 64, 65, 66, 67, 68, 69, 70, 71, 72, 73] (by decide +kernel) (by decide +kernel)
set_option maxRecDepth 20000 in
theorem gX10_cycle_X10_isComplete : GoodIn wsX10_cycle (wsV RX10 96 RX10 yX10_isComplete wsX10_isComplete) := goodIn_app (goodIn_of _ (by decide +kernel)) ggX10_cycle_X10_isComplete
set_option maxRecDepth 20000 in
theorem ggX10_cycle_X10_findCycles : GoodIn wsX10_cycle wsX10_findCycles := goodIn_r _ [37, 4, 38, 39, 6, 8, 7, 40, 41, 42, 11, 43, 44, 45, 46, 47, 48, 20, 49, 50, 51, 52, 28, 29, 21, 22, 23, 53, 54, 55, 56, 57, 58, 59, 60, 61, 62, 63, 64, 65, 66, 67, 68, 69, 70, 71, 72, 73] (by decide +kernel) (by decide +kernel)
set_option maxRecDepth 20000 in
theorem gX10_cycle_X10_findCycles : GoodIn wsX10_cycle (wsV RX10 136 RX10 yX10_findCycles wsX10_findCycles) := goodIn_app (goodIn_of _ (by decide +kernel)) ggX10_cycle_X10_findCycles
theorem dX10_cycle_0 : decode cX10_cycle 0 = .ok (.iload_n 1, 1) := by decide +kernel
theorem dX10_cycle_1 : decode cX10_cycle 1 = .ok (.invokestatic 70, 3) := by decide +kernel
theorem dX10_cycle_4 : decode cX10_cycle 4 = .ok (.ifCond .eq 6, 3) := by decide +kernel
theorem dX10_cycle_7 : decode cX10_cycle 7 = .ok (.ldc 74, 2) := by decide +kernel
theorem dX10_cycle_9 : decode cX10_cycle 9 = .ok (.ireturn, 1) := by decide +kernel
theorem dX10_cycle_10 : decode cX10_cycle 10 = .ok (.iload_n 2, 1) := by decide +kernel
theorem dX10_cycle_11 : decode cX10_cycle 11 = .ok (.ifCond .lt 12, 3) := by decide +kernel
theorem dX10_cycle_14 : decode cX10_cycle 14 = .ok (.iload_n 3, 1) := by decide +kernel
theorem dX10_cycle_15 : decode cX10_cycle 15 = .ok (.iconst 0, 1) := by decide +kernel
theorem dX10_cycle_16 : decode cX10_cycle 16 = .ok (.iconst 2, 1) := by decide +kernel
theorem dX10_cycle_17 : decode cX10_cycle 17 = .ok (.invokestatic 62, 3) := by decide +kernel
theorem dX10_cycle_20 : decode cX10_cycle 20 = .ok (.ifCond .ne 6, 3) := by decide +kernel
theorem dX10_cycle_23 : decode cX10_cycle 23 = .ok (.ldc 79, 2) := by decide +kernel
theorem dX10_cycle_25 : decode cX10_cycle 25 = .ok (.ireturn, 1) := by decide +kernel
theorem dX10_cycle_26 : decode cX10_cycle 26 = .ok (.aload_n 0, 1) := by decide +kernel
theorem dX10_cycle_27 : decode cX10_cycle 27 = .ok (.iload_n 1, 1) := by decide +kernel
theorem dX10_cycle_28 : decode cX10_cycle 28 = .ok (.invokevirtual 96, 3) := by decide +kernel
theorem dX10_cycle_31 : decode cX10_cycle 31 = .ok (.ifCond .ne 6, 3) := by decide +kernel
theorem dX10_cycle_34 : decode cX10_cycle 34 = .ok (.ldc 116, 2) := by decide +kernel
theorem dX10_cycle_36 : decode cX10_cycle 36 = .ok (.ireturn, 1) := by decide +kernel
theorem dX10_cycle_37 : decode cX10_cycle 37 = .ok (.aload_n 0, 1) := by decide +kernel
theorem dX10_cycle_38 : decode cX10_cycle 38 = .ok (.iload_n 1, 1) := by decide +kernel
theorem dX10_cycle_39 : decode cX10_cycle 39 = .ok (.invokevirtual 136, 3) := by decide +kernel
theorem dX10_cycle_42 : decode cX10_cycle 42 = .ok (.iload_n 2, 1) := by decide +kernel
theorem dX10_cycle_43 : decode cX10_cycle 43 = .ok (.aload_n 0, 1) := by decide +kernel
theorem dX10_cycle_44 : decode cX10_cycle 44 = .ok (.getfield 130, 3) := by decide +kernel
theorem dX10_cycle_47 : decode cX10_cycle 47 = .ok (.if_icmp .lt 8, 3) := by decide +kernel
theorem dX10_cycle_50 : decode cX10_cycle 50 = .ok (.ldc 92, 2) := by decide +kernel
theorem dX10_cycle_52 : decode cX10_cycle 52 = .ok (.goto 36, 3) := by decide +kernel
theorem dX10_cycle_55 : decode cX10_cycle 55 = .ok (.iload_n 3, 1) := by decide +kernel
theorem dX10_cycle_56 : decode cX10_cycle 56 = .ok (.ifCond .ne 12, 3) := by decide +kernel
theorem dX10_cycle_59 : decode cX10_cycle 59 = .ok (.aload_n 0, 1) := by decide +kernel
theorem dX10_cycle_60 : decode cX10_cycle 60 = .ok (.getfield 22, 3) := by decide +kernel
theorem dX10_cycle_63 : decode cX10_cycle 63 = .ok (.iload_n 2, 1) := by decide +kernel
theorem dX10_cycle_64 : decode cX10_cycle 64 = .ok (.iaload, 1) := by decide +kernel
theorem dX10_cycle_65 : decode cX10_cycle 65 = .ok (.goto 23, 3) := by decide +kernel
theorem dX10_cycle_68 : decode cX10_cycle 68 = .ok (.iload_n 3, 1) := by decide +kernel
theorem dX10_cycle_69 : decode cX10_cycle 69 = .ok (.iconst 1, 1) := by decide +kernel
theorem dX10_cycle_70 : decode cX10_cycle 70 = .ok (.if_icmp .ne 12, 3) := by decide +kernel
theorem dX10_cycle_73 : decode cX10_cycle 73 = .ok (.aload_n 0, 1) := by decide +kernel
theorem dX10_cycle_74 : decode cX10_cycle 74 = .ok (.getfield 28, 3) := by decide +kernel
theorem dX10_cycle_77 : decode cX10_cycle 77 = .ok (.iload_n 2, 1) := by decide +kernel
theorem dX10_cycle_78 : decode cX10_cycle 78 = .ok (.iaload, 1) := by decide +kernel
theorem dX10_cycle_79 : decode cX10_cycle 79 = .ok (.goto 9, 3) := by decide +kernel
theorem dX10_cycle_82 : decode cX10_cycle 82 = .ok (.aload_n 0, 1) := by decide +kernel
theorem dX10_cycle_83 : decode cX10_cycle 83 = .ok (.getfield 25, 3) := by decide +kernel
theorem dX10_cycle_86 : decode cX10_cycle 86 = .ok (.iload_n 2, 1) := by decide +kernel
theorem dX10_cycle_87 : decode cX10_cycle 87 = .ok (.iaload, 1) := by decide +kernel
theorem dX10_cycle_88 : decode cX10_cycle 88 = .ok (.ireturn, 1) := by decide +kernel
set_option maxRecDepth 20000 in
theorem ggX10_leadsTo_X10_noSystem : GoodIn wsX10_leadsTo wsX10_noSystem := goodIn_r _ [12, 13, 14, 11, 15] (by decide +kernel) (by decide +kernel)
set_option maxRecDepth 20000 in
theorem gX10_leadsTo_X10_noSystem : GoodIn wsX10_leadsTo (va_wsS RX10 70 yX10_noSystem wsX10_noSystem) := goodIn_app (goodIn_of _ (by decide +kernel)) ggX10_leadsTo_X10_noSystem
set_option maxRecDepth 20000 in
theorem ggX10_leadsTo_X10_in : GoodIn wsX10_leadsTo wsX10_in := goodIn_r _ [15] (by decide +kernel) (by decide +kernel)
set_option maxRecDepth 20000 in
theorem gX10_leadsTo_X10_in : GoodIn wsX10_leadsTo (va_wsS RX10 62 yX10_in wsX10_in) := goodIn_app (goodIn_of _ (by decide +kernel)) ggX10_leadsTo_X10_in
set_option maxRecDepth 20000 in
theorem ggX10_leadsTo_X10_isComplete : GoodIn wsX10_leadsTo wsX10_isComplete := goodIn_r _ [19, 20, 21, 22, 11, 23, 24, 25, 26, 27, 28, 29, 30, 31, 32, 33, 58, 59, 60, 61, 62, 63, 64, 65, 66, 67, 68, 69, 70, 71, 72, 73, 74, 75, 76, 77, 78] (by decide +kernel) (by decide +kernel)
set_option maxRecDepth 20000 in
theorem gX10_leadsTo_X10_isComplete : GoodIn wsX10_leadsTo (wsV RX10 96 RX10 yX10_isComplete wsX10_isComplete) := goodIn_app (goodIn_of _ (by decide +kernel)) ggX10_leadsTo_X10_isComplete
set_option maxRecDepth 20000 in
theorem ggX10_leadsTo_X10_findPeriod : GoodIn wsX10_leadsTo wsX10_findPeriod := goodIn_r _ [37, 6, 7, 38, 39, 40, 11, 41, 42, 20, 43, 44, 45, 46, 28, 29, 21, 22, 23, 58, 59, 60, 61, 62, 63, 64, 65, 66, 67, 68, 69, 70, 71, 72, 73, 74, 75, 76, 77, 78] (by decide +kernel) (by decide +kernel)
set_option maxRecDepth 20000 in
theorem gX10_leadsTo_X10_findPeriod : GoodIn wsX10_leadsTo (wsV RX10 117 RX10 yX10_findPeriod wsX10_findPeriod) := goodIn_app (goodIn_of _ (by decide +kernel)) ggX10_leadsTo_X10_findPeriod
set_option maxRecDepth 20000 in
theorem ggX10_leadsTo_X10_numeratorAt : GoodIn wsX10_leadsTo wsX10_numeratorAt := goodIn_r _ [50, 6, 7, 34, 35, 36, 11, 37, 38, 39, 40, 41, 42, 20, 43, 44, 45, 46, 28, 29, 21, 22, 23, 58, 59, 60, 61, 62, 63, 64, 65, 66, 67, 68, 69, 70, 71, 72, 73, 74, 75, 76, 77, 78] (by decide +kernel) (by decide +kernel)
set_option maxRecDepth 20000 in
theorem gX10_leadsTo_X10_numeratorAt : GoodIn wsX10_leadsTo (wsV RX10 124 RX10 yX10_numeratorAt wsX10_numeratorAt) := goodIn_app (goodIn_of _ (by decide +kernel)) ggX10_leadsTo_X10_numeratorAt
set_option maxRecDepth 20000 in
theorem ggX10_leadsTo_X10_step : GoodIn wsX10_leadsTo wsX10_step := goodIn_r _ [41, 42, 20, 43, 44, 45, 11, 46, 28, 29, 21, 22, 23, 58, 59, 60, 61, 62, 63, 64, 65, 66, 67, 68, 69, 70, 71, 72, 73, 74, 75, 76, 77, 78] (by decide +kernel) (by decide +kernel)
set_option maxRecDepth 20000 in
theorem gX10_leadsTo_X10_step : GoodIn wsX10_leadsTo (wsV RX10 103 RX10 yX10_step wsX10_step) := goodIn_app (goodIn_of _ (by decide +kernel)) ggX10_leadsTo_X10_step
set_option maxRecDepth 20000 in
theorem ggX10_leadsTo_X10_findCycles : GoodIn wsX10_leadsTo wsX10_findCycles := goodIn_r _ [54, 55, 7, 6, 8, 56, 57, 34, 35, 36, 11, 37, 38, 39, 40, 41, 42, 20, 43, 44, 45, 46, 28, 29, 21, 22, 23, 58, 59, 60, 61, 62, 63, 64, 65, 66, 67, 68, 69, 70, 71, 72, 73, 74, 75, 76, 77, 78] (by decide +kernel) (by decide +kernel)
set_option maxRecDepth 20000 in
theorem gX10_leadsTo_X10_findCycles : GoodIn wsX10_leadsTo (wsV RX10 136 RX10 yX10_findCycles wsX10_findCycles) := goodIn_app (goodIn_of _ (by decide +kernel)) ggX10_leadsTo_X10_findCycles
theorem dX10_leadsTo_0 : decode cX10_leadsTo 0 = .ok (.iload_n 1, 1) := by decide +kernel
theorem dX10_leadsTo_1 : decode cX10_leadsTo 1 = .ok (.invokestatic 70, 3) := by decide +kernel
theorem dX10_leadsTo_4 : decode cX10_leadsTo 4 = .ok (.ifCond .eq 6, 3) := by decide +kernel
theorem dX10_leadsTo_7 : decode cX10_leadsTo 7 = .ok (.ldc 74, 2) := by decide +kernel
theorem dX10_leadsTo_9 : decode cX10_leadsTo 9 = .ok (.ireturn, 1) := by decide +kernel
theorem dX10_leadsTo_10 : decode cX10_leadsTo 10 = .ok (.iload_n 2, 1) := by decide +kernel
theorem dX10_leadsTo_11 : decode cX10_leadsTo 11 = .ok (.ldc 113, 2) := by decide +kernel
theorem dX10_leadsTo_13 : decode cX10_leadsTo 13 = .ok (.ldc 114, 2) := by decide +kernel
theorem dX10_leadsTo_15 : decode cX10_leadsTo 15 = .ok (.invokestatic 62, 3) := by decide +kernel
theorem dX10_leadsTo_18 : decode cX10_leadsTo 18 = .ok (.ifCond .ne 6, 3) := by decide +kernel
theorem dX10_leadsTo_21 : decode cX10_leadsTo 21 = .ok (.ldc 79, 2) := by decide +kernel
theorem dX10_leadsTo_23 : decode cX10_leadsTo 23 = .ok (.ireturn, 1) := by decide +kernel
theorem dX10_leadsTo_24 : decode cX10_leadsTo 24 = .ok (.aload_n 0, 1) := by decide +kernel
theorem dX10_leadsTo_25 : decode cX10_leadsTo 25 = .ok (.iload_n 1, 1) := by decide +kernel
theorem dX10_leadsTo_26 : decode cX10_leadsTo 26 = .ok (.invokevirtual 96, 3) := by decide +kernel
theorem dX10_leadsTo_29 : decode cX10_leadsTo 29 = .ok (.ifCond .ne 6, 3) := by decide +kernel
theorem dX10_leadsTo_32 : decode cX10_leadsTo 32 = .ok (.ldc 116, 2) := by decide +kernel
theorem dX10_leadsTo_34 : decode cX10_leadsTo 34 = .ok (.ireturn, 1) := by decide +kernel
theorem dX10_leadsTo_35 : decode cX10_leadsTo 35 = .ok (.aload_n 0, 1) := by decide +kernel
theorem dX10_leadsTo_36 : decode cX10_leadsTo 36 = .ok (.iload_n 1, 1) := by decide +kernel
theorem dX10_leadsTo_37 : decode cX10_leadsTo 37 = .ok (.iload_n 2, 1) := by decide +kernel
theorem dX10_leadsTo_38 : decode cX10_leadsTo 38 = .ok (.iconst 1, 1) := by decide +kernel
theorem dX10_leadsTo_39 : decode cX10_leadsTo 39 = .ok (.invokevirtual 117, 3) := by decide +kernel
theorem dX10_leadsTo_42 : decode cX10_leadsTo 42 = .ok (.aload_n 0, 1) := by decide +kernel
theorem dX10_leadsTo_43 : decode cX10_leadsTo 43 = .ok (.iload_n 1, 1) := by decide +kernel
theorem dX10_leadsTo_44 : decode cX10_leadsTo 44 = .ok (.iload_n 2, 1) := by decide +kernel
theorem dX10_leadsTo_45 : decode cX10_leadsTo 45 = .ok (.iconst 1, 1) := by decide +kernel
theorem dX10_leadsTo_46 : decode cX10_leadsTo 46 = .ok (.aload_n 0, 1) := by decide +kernel
theorem dX10_leadsTo_47 : decode cX10_leadsTo 47 = .ok (.getfield 106, 3) := by decide +kernel
theorem dX10_leadsTo_50 : decode cX10_leadsTo 50 = .ok (.invokevirtual 124, 3) := by decide +kernel
theorem dX10_leadsTo_53 : decode cX10_leadsTo 53 = .ok (.istore_n 3, 1) := by decide +kernel
theorem dX10_leadsTo_54 : decode cX10_leadsTo 54 = .ok (.iload_n 3, 1) := by decide +kernel
theorem dX10_leadsTo_55 : decode cX10_leadsTo 55 = .ok (.istore 4, 2) := by decide +kernel
theorem dX10_leadsTo_57 : decode cX10_leadsTo 57 = .ok (.iconst 1, 1) := by decide +kernel
theorem dX10_leadsTo_58 : decode cX10_leadsTo 58 = .ok (.istore 5, 2) := by decide +kernel
theorem dX10_leadsTo_60 : decode cX10_leadsTo 60 = .ok (.iload 5, 2) := by decide +kernel
theorem dX10_leadsTo_62 : decode cX10_leadsTo 62 = .ok (.aload_n 0, 1) := by decide +kernel
theorem dX10_leadsTo_63 : decode cX10_leadsTo 63 = .ok (.getfield 110, 3) := by decide +kernel
theorem dX10_leadsTo_66 : decode cX10_leadsTo 66 = .ok (.if_icmp .ge 31, 3) := by decide +kernel
theorem dX10_leadsTo_69 : decode cX10_leadsTo 69 = .ok (.aload_n 0, 1) := by decide +kernel
theorem dX10_leadsTo_70 : decode cX10_leadsTo 70 = .ok (.iload_n 1, 1) := by decide +kernel
theorem dX10_leadsTo_71 : decode cX10_leadsTo 71 = .ok (.iload_n 3, 1) := by decide +kernel
theorem dX10_leadsTo_72 : decode cX10_leadsTo 72 = .ok (.iconst 1, 1) := by decide +kernel
theorem dX10_leadsTo_73 : decode cX10_leadsTo 73 = .ok (.invokevirtual 103, 3) := by decide +kernel
theorem dX10_leadsTo_76 : decode cX10_leadsTo 76 = .ok (.istore_n 3, 1) := by decide +kernel
theorem dX10_leadsTo_77 : decode cX10_leadsTo 77 = .ok (.iload_n 3, 1) := by decide +kernel
theorem dX10_leadsTo_78 : decode cX10_leadsTo 78 = .ok (.iload 4, 2) := by decide +kernel
theorem dX10_leadsTo_80 : decode cX10_leadsTo 80 = .ok (.if_icmp .ge 7, 3) := by decide +kernel
theorem dX10_leadsTo_83 : decode cX10_leadsTo 83 = .ok (.iload_n 3, 1) := by decide +kernel
theorem dX10_leadsTo_84 : decode cX10_leadsTo 84 = .ok (.goto 5, 3) := by decide +kernel
theorem dX10_leadsTo_87 : decode cX10_leadsTo 87 = .ok (.iload 4, 2) := by decide +kernel
theorem dX10_leadsTo_89 : decode cX10_leadsTo 89 = .ok (.istore 4, 2) := by decide +kernel
theorem dX10_leadsTo_91 : decode cX10_leadsTo 91 = .ok (.iinc 5 1, 3) := by decide +kernel
theorem dX10_leadsTo_94 : decode cX10_leadsTo 94 = .ok (.goto (-34), 3) := by decide +kernel
theorem dX10_leadsTo_97 : decode cX10_leadsTo 97 = .ok (.aload_n 0, 1) := by decide +kernel
theorem dX10_leadsTo_98 : decode cX10_leadsTo 98 = .ok (.iload_n 1, 1) := by decide +kernel
theorem dX10_leadsTo_99 : decode cX10_leadsTo 99 = .ok (.invokevirtual 136, 3) := by decide +kernel
theorem dX10_leadsTo_102 : decode cX10_leadsTo 102 = .ok (.iconst 0, 1) := by decide +kernel
theorem dX10_leadsTo_103 : decode cX10_leadsTo 103 = .ok (.istore 5, 2) := by decide +kernel
theorem dX10_leadsTo_105 : decode cX10_leadsTo 105 = .ok (.aload_n 0, 1) := by decide +kernel
theorem dX10_leadsTo_106 : decode cX10_leadsTo 106 = .ok (.getfield 22, 3) := by decide +kernel
theorem dX10_leadsTo_109 : decode cX10_leadsTo 109 = .ok (.iload 5, 2) := by decide +kernel
theorem dX10_leadsTo_111 : decode cX10_leadsTo 111 = .ok (.iaload, 1) := by decide +kernel
theorem dX10_leadsTo_112 : decode cX10_leadsTo 112 = .ok (.iload 4, 2) := by decide +kernel
theorem dX10_leadsTo_114 : decode cX10_leadsTo 114 = .ok (.if_icmp .eq 9, 3) := by decide +kernel
theorem dX10_leadsTo_117 : decode cX10_leadsTo 117 = .ok (.iinc 5 1, 3) := by decide +kernel
theorem dX10_leadsTo_120 : decode cX10_leadsTo 120 = .ok (.goto (-15), 3) := by decide +kernel
theorem dX10_leadsTo_123 : decode cX10_leadsTo 123 = .ok (.iload 5, 2) := by decide +kernel
theorem dX10_leadsTo_125 : decode cX10_leadsTo 125 = .ok (.ireturn, 1) := by decide +kernel
set_option maxRecDepth 20000 in
theorem ggX10_reachesAll_X10_systemBarred : GoodIn wsX10_reachesAll wsX10_systemBarred := goodIn_r _ [8, 9, 10, 11, 12, 7, 13, 14, 15, 16, 17, 18, 19, 20, 21, 22, 23, 24, 25, 26, 27, 28, 29, 30, 31, 32, 33, 34, 55, 56, 57, 58, 59, 60, 61, 62, 63, 64, 65, 66, 67, 68, 69, 70, 71, 72, 73, 74, 75] (by decide +kernel) (by decide +kernel)
set_option maxRecDepth 20000 in
theorem gX10_reachesAll_X10_systemBarred : GoodIn wsX10_reachesAll (wsV RX10 133 RX10 yX10_systemBarred wsX10_systemBarred) := goodIn_app (goodIn_of _ (by decide +kernel)) ggX10_reachesAll_X10_systemBarred
set_option maxRecDepth 20000 in
theorem ggX10_reachesAll_X10_findCycles : GoodIn wsX10_reachesAll wsX10_findCycles := goodIn_r _ [38, 1, 39, 40, 2, 3, 41, 42, 43, 44, 7, 45, 46, 47, 48, 49, 50, 21, 51, 52, 53, 54, 29, 30, 22, 23, 24, 55, 56, 57, 58, 59, 60, 61, 62, 63, 64, 65, 66, 67, 68, 69, 70, 71, 72, 73, 74, 75] (by decide +kernel) (by decide +kernel)
set_option maxRecDepth 20000 in
theorem gX10_reachesAll_X10_findCycles : GoodIn wsX10_reachesAll (wsV RX10 136 RX10 yX10_findCycles wsX10_findCycles) := goodIn_app (goodIn_of _ (by decide +kernel)) ggX10_reachesAll_X10_findCycles
theorem dX10_reachesAll_0 : decode cX10_reachesAll 0 = .ok (.aload_n 0, 1) := by decide +kernel
theorem dX10_reachesAll_1 : decode cX10_reachesAll 1 = .ok (.iload_n 1, 1) := by decide +kernel
theorem dX10_reachesAll_2 : decode cX10_reachesAll 2 = .ok (.invokevirtual 133, 3) := by decide +kernel
theorem dX10_reachesAll_5 : decode cX10_reachesAll 5 = .ok (.istore_n 2, 1) := by decide +kernel
theorem dX10_reachesAll_6 : decode cX10_reachesAll 6 = .ok (.iload_n 2, 1) := by decide +kernel
theorem dX10_reachesAll_7 : decode cX10_reachesAll 7 = .ok (.ifCond .ge 5, 3) := by decide +kernel
theorem dX10_reachesAll_10 : decode cX10_reachesAll 10 = .ok (.iload_n 2, 1) := by decide +kernel
theorem dX10_reachesAll_11 : decode cX10_reachesAll 11 = .ok (.ireturn, 1) := by decide +kernel
theorem dX10_reachesAll_12 : decode cX10_reachesAll 12 = .ok (.aload_n 0, 1) := by decide +kernel
theorem dX10_reachesAll_13 : decode cX10_reachesAll 13 = .ok (.iload_n 1, 1) := by decide +kernel
theorem dX10_reachesAll_14 : decode cX10_reachesAll 14 = .ok (.invokevirtual 136, 3) := by decide +kernel
theorem dX10_reachesAll_17 : decode cX10_reachesAll 17 = .ok (.aload_n 0, 1) := by decide +kernel
theorem dX10_reachesAll_18 : decode cX10_reachesAll 18 = .ok (.getfield 130, 3) := by decide +kernel
theorem dX10_reachesAll_21 : decode cX10_reachesAll 21 = .ok (.iconst 1, 1) := by decide +kernel
theorem dX10_reachesAll_22 : decode cX10_reachesAll 22 = .ok (.if_icmp .ne 25, 3) := by decide +kernel
theorem dX10_reachesAll_25 : decode cX10_reachesAll 25 = .ok (.aload_n 0, 1) := by decide +kernel
theorem dX10_reachesAll_26 : decode cX10_reachesAll 26 = .ok (.getfield 22, 3) := by decide +kernel
theorem dX10_reachesAll_29 : decode cX10_reachesAll 29 = .ok (.iconst 0, 1) := by decide +kernel
theorem dX10_reachesAll_30 : decode cX10_reachesAll 30 = .ok (.iaload, 1) := by decide +kernel
theorem dX10_reachesAll_31 : decode cX10_reachesAll 31 = .ok (.ifCond .ne 16, 3) := by decide +kernel
theorem dX10_reachesAll_34 : decode cX10_reachesAll 34 = .ok (.aload_n 0, 1) := by decide +kernel
theorem dX10_reachesAll_35 : decode cX10_reachesAll 35 = .ok (.getfield 25, 3) := by decide +kernel
theorem dX10_reachesAll_38 : decode cX10_reachesAll 38 = .ok (.iconst 0, 1) := by decide +kernel
theorem dX10_reachesAll_39 : decode cX10_reachesAll 39 = .ok (.iaload, 1) := by decide +kernel
theorem dX10_reachesAll_40 : decode cX10_reachesAll 40 = .ok (.ifCond .ne 7, 3) := by decide +kernel
theorem dX10_reachesAll_43 : decode cX10_reachesAll 43 = .ok (.iconst 1, 1) := by decide +kernel
theorem dX10_reachesAll_44 : decode cX10_reachesAll 44 = .ok (.goto 4, 3) := by decide +kernel
theorem dX10_reachesAll_47 : decode cX10_reachesAll 47 = .ok (.iconst 0, 1) := by decide +kernel
theorem dX10_reachesAll_48 : decode cX10_reachesAll 48 = .ok (.ireturn, 1) := by decide +kernel
theorem dX10_fits_0 : decode cX10_fits 0 = .ok (.aload_n 0, 1) := by decide +kernel
theorem dX10_fits_1 : decode cX10_fits 1 = .ok (.getfield 13, 3) := by decide +kernel
theorem dX10_fits_4 : decode cX10_fits 4 = .ok (.iload_n 1, 1) := by decide +kernel
theorem dX10_fits_5 : decode cX10_fits 5 = .ok (.iaload, 1) := by decide +kernel
theorem dX10_fits_6 : decode cX10_fits 6 = .ok (.iload_n 2, 1) := by decide +kernel
theorem dX10_fits_7 : decode cX10_fits 7 = .ok (.imul, 1) := by decide +kernel
theorem dX10_fits_8 : decode cX10_fits 8 = .ok (.aload_n 0, 1) := by decide +kernel
theorem dX10_fits_9 : decode cX10_fits 9 = .ok (.getfield 19, 3) := by decide +kernel
theorem dX10_fits_12 : decode cX10_fits 12 = .ok (.bipush 12, 2) := by decide +kernel
theorem dX10_fits_14 : decode cX10_fits 14 = .ok (.iload_n 1, 1) := by decide +kernel
theorem dX10_fits_15 : decode cX10_fits 15 = .ok (.imul, 1) := by decide +kernel
theorem dX10_fits_16 : decode cX10_fits 16 = .ok (.iload_n 3, 1) := by decide +kernel
theorem dX10_fits_17 : decode cX10_fits 17 = .ok (.iadd, 1) := by decide +kernel
theorem dX10_fits_18 : decode cX10_fits 18 = .ok (.iaload, 1) := by decide +kernel
theorem dX10_fits_19 : decode cX10_fits 19 = .ok (.isub, 1) := by decide +kernel
theorem dX10_fits_20 : decode cX10_fits 20 = .ok (.aload_n 0, 1) := by decide +kernel
theorem dX10_fits_21 : decode cX10_fits 21 = .ok (.getfield 7, 3) := by decide +kernel
theorem dX10_fits_24 : decode cX10_fits 24 = .ok (.iload_n 1, 1) := by decide +kernel
theorem dX10_fits_25 : decode cX10_fits 25 = .ok (.iaload, 1) := by decide +kernel
theorem dX10_fits_26 : decode cX10_fits 26 = .ok (.irem, 1) := by decide +kernel
theorem dX10_fits_27 : decode cX10_fits 27 = .ok (.ifCond .ne 7, 3) := by decide +kernel
theorem dX10_fits_30 : decode cX10_fits 30 = .ok (.iconst 1, 1) := by decide +kernel
theorem dX10_fits_31 : decode cX10_fits 31 = .ok (.goto 4, 3) := by decide +kernel
theorem dX10_fits_34 : decode cX10_fits 34 = .ok (.iconst 0, 1) := by decide +kernel
theorem dX10_fits_35 : decode cX10_fits 35 = .ok (.ireturn, 1) := by decide +kernel
theorem dX10_rest_0 : decode cX10_rest 0 = .ok (.aload_n 0, 1) := by decide +kernel
theorem dX10_rest_1 : decode cX10_rest 1 = .ok (.getfield 13, 3) := by decide +kernel
theorem dX10_rest_4 : decode cX10_rest 4 = .ok (.iload_n 1, 1) := by decide +kernel
theorem dX10_rest_5 : decode cX10_rest 5 = .ok (.iaload, 1) := by decide +kernel
theorem dX10_rest_6 : decode cX10_rest 6 = .ok (.iload_n 2, 1) := by decide +kernel
theorem dX10_rest_7 : decode cX10_rest 7 = .ok (.imul, 1) := by decide +kernel
theorem dX10_rest_8 : decode cX10_rest 8 = .ok (.aload_n 0, 1) := by decide +kernel
theorem dX10_rest_9 : decode cX10_rest 9 = .ok (.getfield 19, 3) := by decide +kernel
theorem dX10_rest_12 : decode cX10_rest 12 = .ok (.bipush 12, 2) := by decide +kernel
theorem dX10_rest_14 : decode cX10_rest 14 = .ok (.iload_n 1, 1) := by decide +kernel
theorem dX10_rest_15 : decode cX10_rest 15 = .ok (.imul, 1) := by decide +kernel
theorem dX10_rest_16 : decode cX10_rest 16 = .ok (.iload_n 3, 1) := by decide +kernel
theorem dX10_rest_17 : decode cX10_rest 17 = .ok (.iadd, 1) := by decide +kernel
theorem dX10_rest_18 : decode cX10_rest 18 = .ok (.iaload, 1) := by decide +kernel
theorem dX10_rest_19 : decode cX10_rest 19 = .ok (.isub, 1) := by decide +kernel
theorem dX10_rest_20 : decode cX10_rest 20 = .ok (.aload_n 0, 1) := by decide +kernel
theorem dX10_rest_21 : decode cX10_rest 21 = .ok (.getfield 7, 3) := by decide +kernel
theorem dX10_rest_24 : decode cX10_rest 24 = .ok (.iload_n 1, 1) := by decide +kernel
theorem dX10_rest_25 : decode cX10_rest 25 = .ok (.iaload, 1) := by decide +kernel
theorem dX10_rest_26 : decode cX10_rest 26 = .ok (.idiv, 1) := by decide +kernel
theorem dX10_rest_27 : decode cX10_rest 27 = .ok (.ireturn, 1) := by decide +kernel
theorem dX10_placeIn_0 : decode cX10_placeIn 0 = .ok (.sipush 128, 3) := by decide +kernel
theorem dX10_placeIn_3 : decode cX10_placeIn 3 = .ok (.iload_n 1, 1) := by decide +kernel
theorem dX10_placeIn_4 : decode cX10_placeIn 4 = .ok (.imul, 1) := by decide +kernel
theorem dX10_placeIn_5 : decode cX10_placeIn 5 = .ok (.istore_n 3, 1) := by decide +kernel
theorem dX10_placeIn_6 : decode cX10_placeIn 6 = .ok (.iload_n 3, 1) := by decide +kernel
theorem dX10_placeIn_7 : decode cX10_placeIn 7 = .ok (.sipush 128, 3) := by decide +kernel
theorem dX10_placeIn_10 : decode cX10_placeIn 10 = .ok (.iload_n 1, 1) := by decide +kernel
theorem dX10_placeIn_11 : decode cX10_placeIn 11 = .ok (.imul, 1) := by decide +kernel
theorem dX10_placeIn_12 : decode cX10_placeIn 12 = .ok (.aload_n 0, 1) := by decide +kernel
theorem dX10_placeIn_13 : decode cX10_placeIn 13 = .ok (.getfield 31, 3) := by decide +kernel
theorem dX10_placeIn_16 : decode cX10_placeIn 16 = .ok (.iload_n 1, 1) := by decide +kernel
theorem dX10_placeIn_17 : decode cX10_placeIn 17 = .ok (.iaload, 1) := by decide +kernel
theorem dX10_placeIn_18 : decode cX10_placeIn 18 = .ok (.iadd, 1) := by decide +kernel
theorem dX10_placeIn_19 : decode cX10_placeIn 19 = .ok (.if_icmp .ge 21, 3) := by decide +kernel
theorem dX10_placeIn_22 : decode cX10_placeIn 22 = .ok (.aload_n 0, 1) := by decide +kernel
theorem dX10_placeIn_23 : decode cX10_placeIn 23 = .ok (.getfield 34, 3) := by decide +kernel
theorem dX10_placeIn_26 : decode cX10_placeIn 26 = .ok (.iload_n 3, 1) := by decide +kernel
theorem dX10_placeIn_27 : decode cX10_placeIn 27 = .ok (.iaload, 1) := by decide +kernel
theorem dX10_placeIn_28 : decode cX10_placeIn 28 = .ok (.iload_n 2, 1) := by decide +kernel
theorem dX10_placeIn_29 : decode cX10_placeIn 29 = .ok (.if_icmp .ne 5, 3) := by decide +kernel
theorem dX10_placeIn_32 : decode cX10_placeIn 32 = .ok (.iload_n 3, 1) := by decide +kernel
theorem dX10_placeIn_33 : decode cX10_placeIn 33 = .ok (.ireturn, 1) := by decide +kernel
theorem dX10_placeIn_34 : decode cX10_placeIn 34 = .ok (.iinc 3 1, 3) := by decide +kernel
theorem dX10_placeIn_37 : decode cX10_placeIn 37 = .ok (.goto (-31), 3) := by decide +kernel
theorem dX10_placeIn_40 : decode cX10_placeIn 40 = .ok (.iconst (-1), 1) := by decide +kernel
theorem dX10_placeIn_41 : decode cX10_placeIn 41 = .ok (.ireturn, 1) := by decide +kernel
set_option maxRecDepth 20000 in
theorem ggX10_layLevels_X10_fits : GoodIn wsX10_layLevels wsX10_fits := goodIn_r _ [10, 11, 12, 13, 22, 23, 24, 25, 26, 27, 28, 29, 30, 31, 32, 33, 34, 35, 36, 37, 38, 39, 40, 41, 42] (by decide +kernel) (by decide +kernel)
set_option maxRecDepth 20000 in
theorem gX10_layLevels_X10_fits : GoodIn wsX10_layLevels (wsV RX10 140 RX10 yX10_fits wsX10_fits) := goodIn_app (goodIn_of _ (by decide +kernel)) ggX10_layLevels_X10_fits
set_option maxRecDepth 20000 in
theorem ggX10_layLevels_X10_rest : GoodIn wsX10_layLevels wsX10_rest := goodIn_r _ [17, 11, 12, 13, 22, 23, 24, 25, 26, 27, 28, 29, 30, 31, 32, 33, 34, 35, 36, 37, 38, 39, 40, 41, 42] (by decide +kernel) (by decide +kernel)
set_option maxRecDepth 20000 in
theorem gX10_layLevels_X10_rest : GoodIn wsX10_layLevels (wsV RX10 143 RX10 yX10_rest wsX10_rest) := goodIn_app (goodIn_of _ (by decide +kernel)) ggX10_layLevels_X10_rest
set_option maxRecDepth 20000 in
theorem ggX10_layLevels_X10_placeIn : GoodIn wsX10_layLevels wsX10_placeIn := goodIn_r _ [21, 1, 2, 22, 23, 24, 25, 26, 27, 28, 29, 30, 31, 32, 33, 34, 35, 36, 37, 38, 39, 40, 41, 42] (by decide +kernel) (by decide +kernel)
set_option maxRecDepth 20000 in
theorem gX10_layLevels_X10_placeIn : GoodIn wsX10_layLevels (wsV RX10 146 RX10 yX10_placeIn wsX10_placeIn) := goodIn_app (goodIn_of _ (by decide +kernel)) ggX10_layLevels_X10_placeIn
theorem dX10_layLevels_0 : decode cX10_layLevels 0 = .ok (.aload_n 0, 1) := by decide +kernel
theorem dX10_layLevels_1 : decode cX10_layLevels 1 = .ok (.getfield 31, 3) := by decide +kernel
theorem dX10_layLevels_4 : decode cX10_layLevels 4 = .ok (.iconst 0, 1) := by decide +kernel
theorem dX10_layLevels_5 : decode cX10_layLevels 5 = .ok (.iconst 1, 1) := by decide +kernel
theorem dX10_layLevels_6 : decode cX10_layLevels 6 = .ok (.iastore, 1) := by decide +kernel
theorem dX10_layLevels_7 : decode cX10_layLevels 7 = .ok (.aload_n 0, 1) := by decide +kernel
theorem dX10_layLevels_8 : decode cX10_layLevels 8 = .ok (.getfield 34, 3) := by decide +kernel
theorem dX10_layLevels_11 : decode cX10_layLevels 11 = .ok (.iconst 0, 1) := by decide +kernel
theorem dX10_layLevels_12 : decode cX10_layLevels 12 = .ok (.iload_n 2, 1) := by decide +kernel
theorem dX10_layLevels_13 : decode cX10_layLevels 13 = .ok (.iastore, 1) := by decide +kernel
theorem dX10_layLevels_14 : decode cX10_layLevels 14 = .ok (.iconst 0, 1) := by decide +kernel
theorem dX10_layLevels_15 : decode cX10_layLevels 15 = .ok (.istore 4, 2) := by decide +kernel
theorem dX10_layLevels_17 : decode cX10_layLevels 17 = .ok (.iload 4, 2) := by decide +kernel
theorem dX10_layLevels_19 : decode cX10_layLevels 19 = .ok (.iload_n 3, 1) := by decide +kernel
theorem dX10_layLevels_20 : decode cX10_layLevels 20 = .ok (.if_icmp .ge 164, 3) := by decide +kernel
theorem dX10_layLevels_23 : decode cX10_layLevels 23 = .ok (.aload_n 0, 1) := by decide +kernel
theorem dX10_layLevels_24 : decode cX10_layLevels 24 = .ok (.getfield 31, 3) := by decide +kernel
theorem dX10_layLevels_27 : decode cX10_layLevels 27 = .ok (.iload 4, 2) := by decide +kernel
theorem dX10_layLevels_29 : decode cX10_layLevels 29 = .ok (.iconst 1, 1) := by decide +kernel
theorem dX10_layLevels_30 : decode cX10_layLevels 30 = .ok (.iadd, 1) := by decide +kernel
theorem dX10_layLevels_31 : decode cX10_layLevels 31 = .ok (.iconst 0, 1) := by decide +kernel
theorem dX10_layLevels_32 : decode cX10_layLevels 32 = .ok (.iastore, 1) := by decide +kernel
theorem dX10_layLevels_33 : decode cX10_layLevels 33 = .ok (.sipush 128, 3) := by decide +kernel
theorem dX10_layLevels_36 : decode cX10_layLevels 36 = .ok (.iload 4, 2) := by decide +kernel
theorem dX10_layLevels_38 : decode cX10_layLevels 38 = .ok (.imul, 1) := by decide +kernel
theorem dX10_layLevels_39 : decode cX10_layLevels 39 = .ok (.istore 5, 2) := by decide +kernel
theorem dX10_layLevels_41 : decode cX10_layLevels 41 = .ok (.iload 5, 2) := by decide +kernel
theorem dX10_layLevels_43 : decode cX10_layLevels 43 = .ok (.sipush 128, 3) := by decide +kernel
theorem dX10_layLevels_46 : decode cX10_layLevels 46 = .ok (.iload 4, 2) := by decide +kernel
theorem dX10_layLevels_48 : decode cX10_layLevels 48 = .ok (.imul, 1) := by decide +kernel
theorem dX10_layLevels_49 : decode cX10_layLevels 49 = .ok (.aload_n 0, 1) := by decide +kernel
theorem dX10_layLevels_50 : decode cX10_layLevels 50 = .ok (.getfield 31, 3) := by decide +kernel
theorem dX10_layLevels_53 : decode cX10_layLevels 53 = .ok (.iload 4, 2) := by decide +kernel
theorem dX10_layLevels_55 : decode cX10_layLevels 55 = .ok (.iaload, 1) := by decide +kernel
theorem dX10_layLevels_56 : decode cX10_layLevels 56 = .ok (.iadd, 1) := by decide +kernel
theorem dX10_layLevels_57 : decode cX10_layLevels 57 = .ok (.if_icmp .ge 121, 3) := by decide +kernel
theorem dX10_layLevels_60 : decode cX10_layLevels 60 = .ok (.iconst 0, 1) := by decide +kernel
theorem dX10_layLevels_61 : decode cX10_layLevels 61 = .ok (.istore 6, 2) := by decide +kernel
theorem dX10_layLevels_63 : decode cX10_layLevels 63 = .ok (.iload 6, 2) := by decide +kernel
theorem dX10_layLevels_65 : decode cX10_layLevels 65 = .ok (.aload_n 0, 1) := by decide +kernel
theorem dX10_layLevels_66 : decode cX10_layLevels 66 = .ok (.getfield 16, 3) := by decide +kernel
theorem dX10_layLevels_69 : decode cX10_layLevels 69 = .ok (.iload_n 1, 1) := by decide +kernel
theorem dX10_layLevels_70 : decode cX10_layLevels 70 = .ok (.iaload, 1) := by decide +kernel
theorem dX10_layLevels_71 : decode cX10_layLevels 71 = .ok (.if_icmp .ge 101, 3) := by decide +kernel
theorem dX10_layLevels_74 : decode cX10_layLevels 74 = .ok (.aload_n 0, 1) := by decide +kernel
theorem dX10_layLevels_75 : decode cX10_layLevels 75 = .ok (.iload_n 1, 1) := by decide +kernel
theorem dX10_layLevels_76 : decode cX10_layLevels 76 = .ok (.aload_n 0, 1) := by decide +kernel
theorem dX10_layLevels_77 : decode cX10_layLevels 77 = .ok (.getfield 34, 3) := by decide +kernel
theorem dX10_layLevels_80 : decode cX10_layLevels 80 = .ok (.iload 5, 2) := by decide +kernel
theorem dX10_layLevels_82 : decode cX10_layLevels 82 = .ok (.iaload, 1) := by decide +kernel
theorem dX10_layLevels_83 : decode cX10_layLevels 83 = .ok (.iload 6, 2) := by decide +kernel
theorem dX10_layLevels_85 : decode cX10_layLevels 85 = .ok (.invokevirtual 140, 3) := by decide +kernel
theorem dX10_layLevels_88 : decode cX10_layLevels 88 = .ok (.ifCond .eq 78, 3) := by decide +kernel
theorem dX10_layLevels_91 : decode cX10_layLevels 91 = .ok (.aload_n 0, 1) := by decide +kernel
theorem dX10_layLevels_92 : decode cX10_layLevels 92 = .ok (.iload 4, 2) := by decide +kernel
theorem dX10_layLevels_94 : decode cX10_layLevels 94 = .ok (.iconst 1, 1) := by decide +kernel
theorem dX10_layLevels_95 : decode cX10_layLevels 95 = .ok (.iadd, 1) := by decide +kernel
theorem dX10_layLevels_96 : decode cX10_layLevels 96 = .ok (.aload_n 0, 1) := by decide +kernel
theorem dX10_layLevels_97 : decode cX10_layLevels 97 = .ok (.iload_n 1, 1) := by decide +kernel
theorem dX10_layLevels_98 : decode cX10_layLevels 98 = .ok (.aload_n 0, 1) := by decide +kernel
theorem dX10_layLevels_99 : decode cX10_layLevels 99 = .ok (.getfield 34, 3) := by decide +kernel
theorem dX10_layLevels_102 : decode cX10_layLevels 102 = .ok (.iload 5, 2) := by decide +kernel
theorem dX10_layLevels_104 : decode cX10_layLevels 104 = .ok (.iaload, 1) := by decide +kernel
theorem dX10_layLevels_105 : decode cX10_layLevels 105 = .ok (.iload 6, 2) := by decide +kernel
theorem dX10_layLevels_107 : decode cX10_layLevels 107 = .ok (.invokevirtual 143, 3) := by decide +kernel
theorem dX10_layLevels_110 : decode cX10_layLevels 110 = .ok (.invokevirtual 146, 3) := by decide +kernel
theorem dX10_layLevels_113 : decode cX10_layLevels 113 = .ok (.ifCond .ge 53, 3) := by decide +kernel
theorem dX10_layLevels_116 : decode cX10_layLevels 116 = .ok (.aload_n 0, 1) := by decide +kernel
theorem dX10_layLevels_117 : decode cX10_layLevels 117 = .ok (.getfield 34, 3) := by decide +kernel
theorem dX10_layLevels_120 : decode cX10_layLevels 120 = .ok (.sipush 128, 3) := by decide +kernel
theorem dX10_layLevels_123 : decode cX10_layLevels 123 = .ok (.iload 4, 2) := by decide +kernel
theorem dX10_layLevels_125 : decode cX10_layLevels 125 = .ok (.iconst 1, 1) := by decide +kernel
theorem dX10_layLevels_126 : decode cX10_layLevels 126 = .ok (.iadd, 1) := by decide +kernel
theorem dX10_layLevels_127 : decode cX10_layLevels 127 = .ok (.imul, 1) := by decide +kernel
theorem dX10_layLevels_128 : decode cX10_layLevels 128 = .ok (.aload_n 0, 1) := by decide +kernel
theorem dX10_layLevels_129 : decode cX10_layLevels 129 = .ok (.getfield 31, 3) := by decide +kernel
theorem dX10_layLevels_132 : decode cX10_layLevels 132 = .ok (.iload 4, 2) := by decide +kernel
theorem dX10_layLevels_134 : decode cX10_layLevels 134 = .ok (.iconst 1, 1) := by decide +kernel
theorem dX10_layLevels_135 : decode cX10_layLevels 135 = .ok (.iadd, 1) := by decide +kernel
theorem dX10_layLevels_136 : decode cX10_layLevels 136 = .ok (.iaload, 1) := by decide +kernel
theorem dX10_layLevels_137 : decode cX10_layLevels 137 = .ok (.iadd, 1) := by decide +kernel
theorem dX10_layLevels_138 : decode cX10_layLevels 138 = .ok (.aload_n 0, 1) := by decide +kernel
theorem dX10_layLevels_139 : decode cX10_layLevels 139 = .ok (.iload_n 1, 1) := by decide +kernel
theorem dX10_layLevels_140 : decode cX10_layLevels 140 = .ok (.aload_n 0, 1) := by decide +kernel
theorem dX10_layLevels_141 : decode cX10_layLevels 141 = .ok (.getfield 34, 3) := by decide +kernel
theorem dX10_layLevels_144 : decode cX10_layLevels 144 = .ok (.iload 5, 2) := by decide +kernel
theorem dX10_layLevels_146 : decode cX10_layLevels 146 = .ok (.iaload, 1) := by decide +kernel
theorem dX10_layLevels_147 : decode cX10_layLevels 147 = .ok (.iload 6, 2) := by decide +kernel
theorem dX10_layLevels_149 : decode cX10_layLevels 149 = .ok (.invokevirtual 143, 3) := by decide +kernel
theorem dX10_layLevels_152 : decode cX10_layLevels 152 = .ok (.iastore, 1) := by decide +kernel
theorem dX10_layLevels_153 : decode cX10_layLevels 153 = .ok (.aload_n 0, 1) := by decide +kernel
theorem dX10_layLevels_154 : decode cX10_layLevels 154 = .ok (.getfield 31, 3) := by decide +kernel
theorem dX10_layLevels_157 : decode cX10_layLevels 157 = .ok (.iload 4, 2) := by decide +kernel
theorem dX10_layLevels_159 : decode cX10_layLevels 159 = .ok (.iconst 1, 1) := by decide +kernel
theorem dX10_layLevels_160 : decode cX10_layLevels 160 = .ok (.iadd, 1) := by decide +kernel
theorem dX10_layLevels_161 : decode cX10_layLevels 161 = .ok (.dup2, 1) := by decide +kernel
theorem dX10_layLevels_162 : decode cX10_layLevels 162 = .ok (.iaload, 1) := by decide +kernel
theorem dX10_layLevels_163 : decode cX10_layLevels 163 = .ok (.iconst 1, 1) := by decide +kernel
theorem dX10_layLevels_164 : decode cX10_layLevels 164 = .ok (.iadd, 1) := by decide +kernel
theorem dX10_layLevels_165 : decode cX10_layLevels 165 = .ok (.iastore, 1) := by decide +kernel
theorem dX10_layLevels_166 : decode cX10_layLevels 166 = .ok (.iinc 6 1, 3) := by decide +kernel
theorem dX10_layLevels_169 : decode cX10_layLevels 169 = .ok (.goto (-106), 3) := by decide +kernel
theorem dX10_layLevels_172 : decode cX10_layLevels 172 = .ok (.iinc 5 1, 3) := by decide +kernel
theorem dX10_layLevels_175 : decode cX10_layLevels 175 = .ok (.goto (-134), 3) := by decide +kernel
theorem dX10_layLevels_178 : decode cX10_layLevels 178 = .ok (.iinc 4 1, 3) := by decide +kernel
theorem dX10_layLevels_181 : decode cX10_layLevels 181 = .ok (.goto (-164), 3) := by decide +kernel
theorem dX10_layLevels_184 : decode cX10_layLevels 184 = .ok (.iload_n 3, 1) := by decide +kernel
theorem dX10_layLevels_185 : decode cX10_layLevels 185 = .ok (.istore 4, 2) := by decide +kernel
theorem dX10_layLevels_187 : decode cX10_layLevels 187 = .ok (.iload 4, 2) := by decide +kernel
theorem dX10_layLevels_189 : decode cX10_layLevels 189 = .ok (.ifCond .lt 183, 3) := by decide +kernel
theorem dX10_layLevels_192 : decode cX10_layLevels 192 = .ok (.sipush 128, 3) := by decide +kernel
theorem dX10_layLevels_195 : decode cX10_layLevels 195 = .ok (.iload 4, 2) := by decide +kernel
theorem dX10_layLevels_197 : decode cX10_layLevels 197 = .ok (.imul, 1) := by decide +kernel
theorem dX10_layLevels_198 : decode cX10_layLevels 198 = .ok (.istore 5, 2) := by decide +kernel
theorem dX10_layLevels_200 : decode cX10_layLevels 200 = .ok (.iload 5, 2) := by decide +kernel
theorem dX10_layLevels_202 : decode cX10_layLevels 202 = .ok (.sipush 128, 3) := by decide +kernel
theorem dX10_layLevels_205 : decode cX10_layLevels 205 = .ok (.iload 4, 2) := by decide +kernel
theorem dX10_layLevels_207 : decode cX10_layLevels 207 = .ok (.imul, 1) := by decide +kernel
theorem dX10_layLevels_208 : decode cX10_layLevels 208 = .ok (.aload_n 0, 1) := by decide +kernel
theorem dX10_layLevels_209 : decode cX10_layLevels 209 = .ok (.getfield 31, 3) := by decide +kernel
theorem dX10_layLevels_212 : decode cX10_layLevels 212 = .ok (.iload 4, 2) := by decide +kernel
theorem dX10_layLevels_214 : decode cX10_layLevels 214 = .ok (.iaload, 1) := by decide +kernel
theorem dX10_layLevels_215 : decode cX10_layLevels 215 = .ok (.iadd, 1) := by decide +kernel
theorem dX10_layLevels_216 : decode cX10_layLevels 216 = .ok (.if_icmp .ge 150, 3) := by decide +kernel
theorem dX10_layLevels_219 : decode cX10_layLevels 219 = .ok (.aload_n 0, 1) := by decide +kernel
theorem dX10_layLevels_220 : decode cX10_layLevels 220 = .ok (.getfield 37, 3) := by decide +kernel
theorem dX10_layLevels_223 : decode cX10_layLevels 223 = .ok (.iload 5, 2) := by decide +kernel
theorem dX10_layLevels_225 : decode cX10_layLevels 225 = .ok (.iload 4, 2) := by decide +kernel
theorem dX10_layLevels_227 : decode cX10_layLevels 227 = .ok (.iload_n 3, 1) := by decide +kernel
theorem dX10_layLevels_228 : decode cX10_layLevels 228 = .ok (.if_icmp .ne 17, 3) := by decide +kernel
theorem dX10_layLevels_231 : decode cX10_layLevels 231 = .ok (.aload_n 0, 1) := by decide +kernel
theorem dX10_layLevels_232 : decode cX10_layLevels 232 = .ok (.getfield 34, 3) := by decide +kernel
theorem dX10_layLevels_235 : decode cX10_layLevels 235 = .ok (.iload 5, 2) := by decide +kernel
theorem dX10_layLevels_237 : decode cX10_layLevels 237 = .ok (.iaload, 1) := by decide +kernel
theorem dX10_layLevels_238 : decode cX10_layLevels 238 = .ok (.ifCond .ne 7, 3) := by decide +kernel
theorem dX10_layLevels_241 : decode cX10_layLevels 241 = .ok (.iconst 1, 1) := by decide +kernel
theorem dX10_layLevels_242 : decode cX10_layLevels 242 = .ok (.goto 4, 3) := by decide +kernel
theorem dX10_layLevels_245 : decode cX10_layLevels 245 = .ok (.iconst 0, 1) := by decide +kernel
theorem dX10_layLevels_246 : decode cX10_layLevels 246 = .ok (.iastore, 1) := by decide +kernel
theorem dX10_layLevels_247 : decode cX10_layLevels 247 = .ok (.iconst 0, 1) := by decide +kernel
theorem dX10_layLevels_248 : decode cX10_layLevels 248 = .ok (.istore 6, 2) := by decide +kernel
theorem dX10_layLevels_250 : decode cX10_layLevels 250 = .ok (.iload 6, 2) := by decide +kernel
theorem dX10_layLevels_252 : decode cX10_layLevels 252 = .ok (.aload_n 0, 1) := by decide +kernel
theorem dX10_layLevels_253 : decode cX10_layLevels 253 = .ok (.getfield 16, 3) := by decide +kernel
theorem dX10_layLevels_256 : decode cX10_layLevels 256 = .ok (.iload_n 1, 1) := by decide +kernel
theorem dX10_layLevels_257 : decode cX10_layLevels 257 = .ok (.iaload, 1) := by decide +kernel
theorem dX10_layLevels_258 : decode cX10_layLevels 258 = .ok (.if_icmp .ge 102, 3) := by decide +kernel
theorem dX10_layLevels_261 : decode cX10_layLevels 261 = .ok (.iload 4, 2) := by decide +kernel
theorem dX10_layLevels_263 : decode cX10_layLevels 263 = .ok (.iload_n 3, 1) := by decide +kernel
theorem dX10_layLevels_264 : decode cX10_layLevels 264 = .ok (.if_icmp .ge 96, 3) := by decide +kernel
theorem dX10_layLevels_267 : decode cX10_layLevels 267 = .ok (.aload_n 0, 1) := by decide +kernel
theorem dX10_layLevels_268 : decode cX10_layLevels 268 = .ok (.iload_n 1, 1) := by decide +kernel
theorem dX10_layLevels_269 : decode cX10_layLevels 269 = .ok (.aload_n 0, 1) := by decide +kernel
theorem dX10_layLevels_270 : decode cX10_layLevels 270 = .ok (.getfield 34, 3) := by decide +kernel
theorem dX10_layLevels_273 : decode cX10_layLevels 273 = .ok (.iload 5, 2) := by decide +kernel
theorem dX10_layLevels_275 : decode cX10_layLevels 275 = .ok (.iaload, 1) := by decide +kernel
theorem dX10_layLevels_276 : decode cX10_layLevels 276 = .ok (.iload 6, 2) := by decide +kernel
theorem dX10_layLevels_278 : decode cX10_layLevels 278 = .ok (.invokevirtual 140, 3) := by decide +kernel
theorem dX10_layLevels_281 : decode cX10_layLevels 281 = .ok (.ifCond .eq 33, 3) := by decide +kernel
theorem dX10_layLevels_284 : decode cX10_layLevels 284 = .ok (.aload_n 0, 1) := by decide +kernel
theorem dX10_layLevels_285 : decode cX10_layLevels 285 = .ok (.getfield 37, 3) := by decide +kernel
theorem dX10_layLevels_288 : decode cX10_layLevels 288 = .ok (.aload_n 0, 1) := by decide +kernel
theorem dX10_layLevels_289 : decode cX10_layLevels 289 = .ok (.iload 4, 2) := by decide +kernel
theorem dX10_layLevels_291 : decode cX10_layLevels 291 = .ok (.iconst 1, 1) := by decide +kernel
theorem dX10_layLevels_292 : decode cX10_layLevels 292 = .ok (.iadd, 1) := by decide +kernel
theorem dX10_layLevels_293 : decode cX10_layLevels 293 = .ok (.aload_n 0, 1) := by decide +kernel
theorem dX10_layLevels_294 : decode cX10_layLevels 294 = .ok (.iload_n 1, 1) := by decide +kernel
theorem dX10_layLevels_295 : decode cX10_layLevels 295 = .ok (.aload_n 0, 1) := by decide +kernel
theorem dX10_layLevels_296 : decode cX10_layLevels 296 = .ok (.getfield 34, 3) := by decide +kernel
theorem dX10_layLevels_299 : decode cX10_layLevels 299 = .ok (.iload 5, 2) := by decide +kernel
theorem dX10_layLevels_301 : decode cX10_layLevels 301 = .ok (.iaload, 1) := by decide +kernel
theorem dX10_layLevels_302 : decode cX10_layLevels 302 = .ok (.iload 6, 2) := by decide +kernel
theorem dX10_layLevels_304 : decode cX10_layLevels 304 = .ok (.invokevirtual 143, 3) := by decide +kernel
theorem dX10_layLevels_307 : decode cX10_layLevels 307 = .ok (.invokevirtual 146, 3) := by decide +kernel
theorem dX10_layLevels_310 : decode cX10_layLevels 310 = .ok (.iaload, 1) := by decide +kernel
theorem dX10_layLevels_311 : decode cX10_layLevels 311 = .ok (.goto 4, 3) := by decide +kernel
theorem dX10_layLevels_314 : decode cX10_layLevels 314 = .ok (.iconst 0, 1) := by decide +kernel
theorem dX10_layLevels_315 : decode cX10_layLevels 315 = .ok (.istore 7, 2) := by decide +kernel
theorem dX10_layLevels_317 : decode cX10_layLevels 317 = .ok (.aload_n 0, 1) := by decide +kernel
theorem dX10_layLevels_318 : decode cX10_layLevels 318 = .ok (.getfield 37, 3) := by decide +kernel
theorem dX10_layLevels_321 : decode cX10_layLevels 321 = .ok (.iload 5, 2) := by decide +kernel
theorem dX10_layLevels_323 : decode cX10_layLevels 323 = .ok (.aload_n 0, 1) := by decide +kernel
theorem dX10_layLevels_324 : decode cX10_layLevels 324 = .ok (.getfield 37, 3) := by decide +kernel
theorem dX10_layLevels_327 : decode cX10_layLevels 327 = .ok (.iload 5, 2) := by decide +kernel
theorem dX10_layLevels_329 : decode cX10_layLevels 329 = .ok (.iaload, 1) := by decide +kernel
theorem dX10_layLevels_330 : decode cX10_layLevels 330 = .ok (.iload 7, 2) := by decide +kernel
theorem dX10_layLevels_332 : decode cX10_layLevels 332 = .ok (.iadd, 1) := by decide +kernel
theorem dX10_layLevels_333 : decode cX10_layLevels 333 = .ok (.ldc 149, 2) := by decide +kernel
theorem dX10_layLevels_335 : decode cX10_layLevels 335 = .ok (.if_icmp .le 8, 3) := by decide +kernel
theorem dX10_layLevels_338 : decode cX10_layLevels 338 = .ok (.ldc 149, 2) := by decide +kernel
theorem dX10_layLevels_340 : decode cX10_layLevels 340 = .ok (.goto 13, 3) := by decide +kernel
theorem dX10_layLevels_343 : decode cX10_layLevels 343 = .ok (.aload_n 0, 1) := by decide +kernel
theorem dX10_layLevels_344 : decode cX10_layLevels 344 = .ok (.getfield 37, 3) := by decide +kernel
theorem dX10_layLevels_347 : decode cX10_layLevels 347 = .ok (.iload 5, 2) := by decide +kernel
theorem dX10_layLevels_349 : decode cX10_layLevels 349 = .ok (.iaload, 1) := by decide +kernel
theorem dX10_layLevels_350 : decode cX10_layLevels 350 = .ok (.iload 7, 2) := by decide +kernel
theorem dX10_layLevels_352 : decode cX10_layLevels 352 = .ok (.iadd, 1) := by decide +kernel
theorem dX10_layLevels_353 : decode cX10_layLevels 353 = .ok (.iastore, 1) := by decide +kernel
theorem dX10_layLevels_354 : decode cX10_layLevels 354 = .ok (.iinc 6 1, 3) := by decide +kernel
theorem dX10_layLevels_357 : decode cX10_layLevels 357 = .ok (.goto (-107), 3) := by decide +kernel
theorem dX10_layLevels_360 : decode cX10_layLevels 360 = .ok (.iinc 5 1, 3) := by decide +kernel
theorem dX10_layLevels_363 : decode cX10_layLevels 363 = .ok (.goto (-163), 3) := by decide +kernel
theorem dX10_layLevels_366 : decode cX10_layLevels 366 = .ok (.iinc 4 (-1), 3) := by decide +kernel
theorem dX10_layLevels_369 : decode cX10_layLevels 369 = .ok (.goto (-182), 3) := by decide +kernel
theorem dX10_layLevels_372 : decode cX10_layLevels 372 = .ok (.return_, 1) := by decide +kernel
set_option maxRecDepth 20000 in
theorem ggX10_expansions_X10_noSystem : GoodIn wsX10_expansions wsX10_noSystem := goodIn_r _ [9, 10, 11, 8, 12] (by decide +kernel) (by decide +kernel)
set_option maxRecDepth 20000 in
theorem gX10_expansions_X10_noSystem : GoodIn wsX10_expansions (va_wsS RX10 70 yX10_noSystem wsX10_noSystem) := goodIn_app (goodIn_of _ (by decide +kernel)) ggX10_expansions_X10_noSystem
set_option maxRecDepth 20000 in
theorem ggX10_expansions_X10_in : GoodIn wsX10_expansions wsX10_in := goodIn_r _ [12] (by decide +kernel) (by decide +kernel)
set_option maxRecDepth 20000 in
theorem gX10_expansions_X10_in : GoodIn wsX10_expansions (va_wsS RX10 62 yX10_in wsX10_in) := goodIn_app (goodIn_of _ (by decide +kernel)) ggX10_expansions_X10_in
set_option maxRecDepth 20000 in
theorem ggX10_expansions_X10_layLevels : GoodIn wsX10_expansions wsX10_layLevels := goodIn_r _ [16, 17, 18, 19, 5, 20, 21, 22, 23, 8, 24, 25, 26, 27, 28, 29, 30, 31, 32, 33, 34, 35, 36, 37, 38, 39, 40, 41, 42, 43, 44, 45, 46, 47, 48, 49, 50, 51, 52, 53, 54, 55, 56] (by decide +kernel) (by decide +kernel)
set_option maxRecDepth 20000 in
theorem gX10_expansions_X10_layLevels : GoodIn wsX10_expansions (wsV RX10 150 RX10 yX10_layLevels wsX10_layLevels) := goodIn_app (goodIn_of _ (by decide +kernel)) ggX10_expansions_X10_layLevels
theorem dX10_expansions_0 : decode cX10_expansions 0 = .ok (.iload_n 1, 1) := by decide +kernel
theorem dX10_expansions_1 : decode cX10_expansions 1 = .ok (.invokestatic 70, 3) := by decide +kernel
theorem dX10_expansions_4 : decode cX10_expansions 4 = .ok (.ifCond .eq 6, 3) := by decide +kernel
theorem dX10_expansions_7 : decode cX10_expansions 7 = .ok (.ldc 74, 2) := by decide +kernel
theorem dX10_expansions_9 : decode cX10_expansions 9 = .ok (.ireturn, 1) := by decide +kernel
theorem dX10_expansions_10 : decode cX10_expansions 10 = .ok (.iload_n 2, 1) := by decide +kernel
theorem dX10_expansions_11 : decode cX10_expansions 11 = .ok (.ldc 113, 2) := by decide +kernel
theorem dX10_expansions_13 : decode cX10_expansions 13 = .ok (.ldc 114, 2) := by decide +kernel
theorem dX10_expansions_15 : decode cX10_expansions 15 = .ok (.invokestatic 62, 3) := by decide +kernel
theorem dX10_expansions_18 : decode cX10_expansions 18 = .ok (.ifCond .eq 13, 3) := by decide +kernel
theorem dX10_expansions_21 : decode cX10_expansions 21 = .ok (.iload_n 3, 1) := by decide +kernel
theorem dX10_expansions_22 : decode cX10_expansions 22 = .ok (.iconst 0, 1) := by decide +kernel
theorem dX10_expansions_23 : decode cX10_expansions 23 = .ok (.bipush 12, 2) := by decide +kernel
theorem dX10_expansions_25 : decode cX10_expansions 25 = .ok (.invokestatic 62, 3) := by decide +kernel
theorem dX10_expansions_28 : decode cX10_expansions 28 = .ok (.ifCond .ne 6, 3) := by decide +kernel
theorem dX10_expansions_31 : decode cX10_expansions 31 = .ok (.ldc 79, 2) := by decide +kernel
theorem dX10_expansions_33 : decode cX10_expansions 33 = .ok (.ireturn, 1) := by decide +kernel
theorem dX10_expansions_34 : decode cX10_expansions 34 = .ok (.aload_n 0, 1) := by decide +kernel
theorem dX10_expansions_35 : decode cX10_expansions 35 = .ok (.iload_n 1, 1) := by decide +kernel
theorem dX10_expansions_36 : decode cX10_expansions 36 = .ok (.iload_n 2, 1) := by decide +kernel
theorem dX10_expansions_37 : decode cX10_expansions 37 = .ok (.iload_n 3, 1) := by decide +kernel
theorem dX10_expansions_38 : decode cX10_expansions 38 = .ok (.invokevirtual 150, 3) := by decide +kernel
theorem dX10_expansions_41 : decode cX10_expansions 41 = .ok (.aload_n 0, 1) := by decide +kernel
theorem dX10_expansions_42 : decode cX10_expansions 42 = .ok (.getfield 37, 3) := by decide +kernel
theorem dX10_expansions_45 : decode cX10_expansions 45 = .ok (.iconst 0, 1) := by decide +kernel
theorem dX10_expansions_46 : decode cX10_expansions 46 = .ok (.iaload, 1) := by decide +kernel
theorem dX10_expansions_47 : decode cX10_expansions 47 = .ok (.ireturn, 1) := by decide +kernel
set_option maxRecDepth 20000 in
theorem ggX10_expansionDigit_X10_noSystem : GoodIn wsX10_expansionDigit wsX10_noSystem := goodIn_r _ [12, 13, 14, 11, 15] (by decide +kernel) (by decide +kernel)
set_option maxRecDepth 20000 in
theorem gX10_expansionDigit_X10_noSystem : GoodIn wsX10_expansionDigit (va_wsS RX10 70 yX10_noSystem wsX10_noSystem) := goodIn_app (goodIn_of _ (by decide +kernel)) ggX10_expansionDigit_X10_noSystem
set_option maxRecDepth 20000 in
theorem ggX10_expansionDigit_X10_in : GoodIn wsX10_expansionDigit wsX10_in := goodIn_r _ [15] (by decide +kernel) (by decide +kernel)
set_option maxRecDepth 20000 in
theorem gX10_expansionDigit_X10_in : GoodIn wsX10_expansionDigit (va_wsS RX10 62 yX10_in wsX10_in) := goodIn_app (goodIn_of _ (by decide +kernel)) ggX10_expansionDigit_X10_in
set_option maxRecDepth 20000 in
theorem ggX10_expansionDigit_X10_layLevels : GoodIn wsX10_expansionDigit wsX10_layLevels := goodIn_r _ [19, 20, 21, 22, 6, 23, 24, 25, 26, 11, 27, 28, 8, 29, 30, 31, 32, 33, 34, 35, 36, 37, 38, 39, 40, 41, 42, 43, 44, 45, 46, 47, 48, 49, 50, 51, 52, 53, 54, 55, 56, 57, 58] (by decide +kernel) (by decide +kernel)
set_option maxRecDepth 20000 in
theorem gX10_expansionDigit_X10_layLevels : GoodIn wsX10_expansionDigit (wsV RX10 150 RX10 yX10_layLevels wsX10_layLevels) := goodIn_app (goodIn_of _ (by decide +kernel)) ggX10_expansionDigit_X10_layLevels
set_option maxRecDepth 20000 in
theorem ggX10_expansionDigit_X10_fits : GoodIn wsX10_expansionDigit wsX10_fits := goodIn_r _ [27, 28, 8, 29, 38, 39, 40, 41, 42, 43, 44, 45, 46, 47, 48, 49, 50, 51, 52, 53, 54, 55, 56, 57, 58] (by decide +kernel) (by decide +kernel)
set_option maxRecDepth 20000 in
theorem gX10_expansionDigit_X10_fits : GoodIn wsX10_expansionDigit (wsV RX10 140 RX10 yX10_fits wsX10_fits) := goodIn_app (goodIn_of _ (by decide +kernel)) ggX10_expansionDigit_X10_fits
set_option maxRecDepth 20000 in
theorem ggX10_expansionDigit_X10_rest : GoodIn wsX10_expansionDigit wsX10_rest := goodIn_r _ [33, 28, 8, 29, 38, 39, 40, 41, 42, 43, 44, 45, 46, 47, 48, 49, 50, 51, 52, 53, 54, 55, 56, 57, 58] (by decide +kernel) (by decide +kernel)
set_option maxRecDepth 20000 in
theorem gX10_expansionDigit_X10_rest : GoodIn wsX10_expansionDigit (wsV RX10 143 RX10 yX10_rest wsX10_rest) := goodIn_app (goodIn_of _ (by decide +kernel)) ggX10_expansionDigit_X10_rest
set_option maxRecDepth 20000 in
theorem ggX10_expansionDigit_X10_placeIn : GoodIn wsX10_expansionDigit wsX10_placeIn := goodIn_r _ [37, 20, 21, 38, 39, 40, 41, 42, 43, 44, 45, 46, 47, 48, 49, 50, 51, 52, 53, 54, 55, 56, 57, 58] (by decide +kernel) (by decide +kernel)
set_option maxRecDepth 20000 in
theorem gX10_expansionDigit_X10_placeIn : GoodIn wsX10_expansionDigit (wsV RX10 146 RX10 yX10_placeIn wsX10_placeIn) := goodIn_app (goodIn_of _ (by decide +kernel)) ggX10_expansionDigit_X10_placeIn
theorem dX10_expansionDigit_0 : decode cX10_expansionDigit 0 = .ok (.iload_n 1, 1) := by decide +kernel
theorem dX10_expansionDigit_1 : decode cX10_expansionDigit 1 = .ok (.invokestatic 70, 3) := by decide +kernel
theorem dX10_expansionDigit_4 : decode cX10_expansionDigit 4 = .ok (.ifCond .ne 25, 3) := by decide +kernel
theorem dX10_expansionDigit_7 : decode cX10_expansionDigit 7 = .ok (.iload_n 3, 1) := by decide +kernel
theorem dX10_expansionDigit_8 : decode cX10_expansionDigit 8 = .ok (.iconst 0, 1) := by decide +kernel
theorem dX10_expansionDigit_9 : decode cX10_expansionDigit 9 = .ok (.bipush 12, 2) := by decide +kernel
theorem dX10_expansionDigit_11 : decode cX10_expansionDigit 11 = .ok (.invokestatic 62, 3) := by decide +kernel
theorem dX10_expansionDigit_14 : decode cX10_expansionDigit 14 = .ok (.ifCond .eq 18, 3) := by decide +kernel
theorem dX10_expansionDigit_17 : decode cX10_expansionDigit 17 = .ok (.iload 5, 2) := by decide +kernel
theorem dX10_expansionDigit_19 : decode cX10_expansionDigit 19 = .ok (.iconst 0, 1) := by decide +kernel
theorem dX10_expansionDigit_20 : decode cX10_expansionDigit 20 = .ok (.iload_n 3, 1) := by decide +kernel
theorem dX10_expansionDigit_21 : decode cX10_expansionDigit 21 = .ok (.iconst 1, 1) := by decide +kernel
theorem dX10_expansionDigit_22 : decode cX10_expansionDigit 22 = .ok (.isub, 1) := by decide +kernel
theorem dX10_expansionDigit_23 : decode cX10_expansionDigit 23 = .ok (.invokestatic 62, 3) := by decide +kernel
theorem dX10_expansionDigit_26 : decode cX10_expansionDigit 26 = .ok (.ifCond .ne 6, 3) := by decide +kernel
theorem dX10_expansionDigit_29 : decode cX10_expansionDigit 29 = .ok (.ldc 74, 2) := by decide +kernel
theorem dX10_expansionDigit_31 : decode cX10_expansionDigit 31 = .ok (.ireturn, 1) := by decide +kernel
theorem dX10_expansionDigit_32 : decode cX10_expansionDigit 32 = .ok (.iload_n 2, 1) := by decide +kernel
theorem dX10_expansionDigit_33 : decode cX10_expansionDigit 33 = .ok (.ldc 113, 2) := by decide +kernel
theorem dX10_expansionDigit_35 : decode cX10_expansionDigit 35 = .ok (.ldc 114, 2) := by decide +kernel
theorem dX10_expansionDigit_37 : decode cX10_expansionDigit 37 = .ok (.invokestatic 62, 3) := by decide +kernel
theorem dX10_expansionDigit_40 : decode cX10_expansionDigit 40 = .ok (.ifCond .eq 24, 3) := by decide +kernel
theorem dX10_expansionDigit_43 : decode cX10_expansionDigit 43 = .ok (.iload_n 3, 1) := by decide +kernel
theorem dX10_expansionDigit_44 : decode cX10_expansionDigit 44 = .ok (.iconst 0, 1) := by decide +kernel
theorem dX10_expansionDigit_45 : decode cX10_expansionDigit 45 = .ok (.bipush 12, 2) := by decide +kernel
theorem dX10_expansionDigit_47 : decode cX10_expansionDigit 47 = .ok (.invokestatic 62, 3) := by decide +kernel
theorem dX10_expansionDigit_50 : decode cX10_expansionDigit 50 = .ok (.ifCond .eq 14, 3) := by decide +kernel
theorem dX10_expansionDigit_53 : decode cX10_expansionDigit 53 = .ok (.iload 4, 2) := by decide +kernel
theorem dX10_expansionDigit_55 : decode cX10_expansionDigit 55 = .ok (.iconst 0, 1) := by decide +kernel
theorem dX10_expansionDigit_56 : decode cX10_expansionDigit 56 = .ok (.ldc 153, 2) := by decide +kernel
theorem dX10_expansionDigit_58 : decode cX10_expansionDigit 58 = .ok (.invokestatic 62, 3) := by decide +kernel
theorem dX10_expansionDigit_61 : decode cX10_expansionDigit 61 = .ok (.ifCond .ne 6, 3) := by decide +kernel
theorem dX10_expansionDigit_64 : decode cX10_expansionDigit 64 = .ok (.ldc 79, 2) := by decide +kernel
theorem dX10_expansionDigit_66 : decode cX10_expansionDigit 66 = .ok (.ireturn, 1) := by decide +kernel
theorem dX10_expansionDigit_67 : decode cX10_expansionDigit 67 = .ok (.aload_n 0, 1) := by decide +kernel
theorem dX10_expansionDigit_68 : decode cX10_expansionDigit 68 = .ok (.iload_n 1, 1) := by decide +kernel
theorem dX10_expansionDigit_69 : decode cX10_expansionDigit 69 = .ok (.iload_n 2, 1) := by decide +kernel
theorem dX10_expansionDigit_70 : decode cX10_expansionDigit 70 = .ok (.iload_n 3, 1) := by decide +kernel
theorem dX10_expansionDigit_71 : decode cX10_expansionDigit 71 = .ok (.invokevirtual 150, 3) := by decide +kernel
theorem dX10_expansionDigit_74 : decode cX10_expansionDigit 74 = .ok (.iload 4, 2) := by decide +kernel
theorem dX10_expansionDigit_76 : decode cX10_expansionDigit 76 = .ok (.aload_n 0, 1) := by decide +kernel
theorem dX10_expansionDigit_77 : decode cX10_expansionDigit 77 = .ok (.getfield 37, 3) := by decide +kernel
theorem dX10_expansionDigit_80 : decode cX10_expansionDigit 80 = .ok (.iconst 0, 1) := by decide +kernel
theorem dX10_expansionDigit_81 : decode cX10_expansionDigit 81 = .ok (.iaload, 1) := by decide +kernel
theorem dX10_expansionDigit_82 : decode cX10_expansionDigit 82 = .ok (.if_icmp .lt 6, 3) := by decide +kernel
theorem dX10_expansionDigit_85 : decode cX10_expansionDigit 85 = .ok (.ldc 92, 2) := by decide +kernel
theorem dX10_expansionDigit_87 : decode cX10_expansionDigit 87 = .ok (.ireturn, 1) := by decide +kernel
theorem dX10_expansionDigit_88 : decode cX10_expansionDigit 88 = .ok (.iload 4, 2) := by decide +kernel
theorem dX10_expansionDigit_90 : decode cX10_expansionDigit 90 = .ok (.istore 6, 2) := by decide +kernel
theorem dX10_expansionDigit_92 : decode cX10_expansionDigit 92 = .ok (.iload_n 2, 1) := by decide +kernel
theorem dX10_expansionDigit_93 : decode cX10_expansionDigit 93 = .ok (.istore 7, 2) := by decide +kernel
theorem dX10_expansionDigit_95 : decode cX10_expansionDigit 95 = .ok (.iconst 0, 1) := by decide +kernel
theorem dX10_expansionDigit_96 : decode cX10_expansionDigit 96 = .ok (.istore 8, 2) := by decide +kernel
theorem dX10_expansionDigit_98 : decode cX10_expansionDigit 98 = .ok (.iconst 0, 1) := by decide +kernel
theorem dX10_expansionDigit_99 : decode cX10_expansionDigit 99 = .ok (.istore 9, 2) := by decide +kernel
theorem dX10_expansionDigit_101 : decode cX10_expansionDigit 101 = .ok (.iload 9, 2) := by decide +kernel
theorem dX10_expansionDigit_103 : decode cX10_expansionDigit 103 = .ok (.iload 5, 2) := by decide +kernel
theorem dX10_expansionDigit_105 : decode cX10_expansionDigit 105 = .ok (.if_icmp .gt 133, 3) := by decide +kernel
theorem dX10_expansionDigit_108 : decode cX10_expansionDigit 108 = .ok (.iconst 0, 1) := by decide +kernel
theorem dX10_expansionDigit_109 : decode cX10_expansionDigit 109 = .ok (.istore 10, 2) := by decide +kernel
theorem dX10_expansionDigit_111 : decode cX10_expansionDigit 111 = .ok (.iconst 1, 1) := by decide +kernel
theorem dX10_expansionDigit_112 : decode cX10_expansionDigit 112 = .ok (.istore 11, 2) := by decide +kernel
theorem dX10_expansionDigit_114 : decode cX10_expansionDigit 114 = .ok (.iload 11, 2) := by decide +kernel
theorem dX10_expansionDigit_116 : decode cX10_expansionDigit 116 = .ok (.ifCond .eq 91, 3) := by decide +kernel
theorem dX10_expansionDigit_119 : decode cX10_expansionDigit 119 = .ok (.aload_n 0, 1) := by decide +kernel
theorem dX10_expansionDigit_120 : decode cX10_expansionDigit 120 = .ok (.iload_n 1, 1) := by decide +kernel
theorem dX10_expansionDigit_121 : decode cX10_expansionDigit 121 = .ok (.iload 7, 2) := by decide +kernel
theorem dX10_expansionDigit_123 : decode cX10_expansionDigit 123 = .ok (.iload 10, 2) := by decide +kernel
theorem dX10_expansionDigit_125 : decode cX10_expansionDigit 125 = .ok (.invokevirtual 140, 3) := by decide +kernel
theorem dX10_expansionDigit_128 : decode cX10_expansionDigit 128 = .ok (.ifCond .eq 28, 3) := by decide +kernel
theorem dX10_expansionDigit_131 : decode cX10_expansionDigit 131 = .ok (.aload_n 0, 1) := by decide +kernel
theorem dX10_expansionDigit_132 : decode cX10_expansionDigit 132 = .ok (.getfield 37, 3) := by decide +kernel
theorem dX10_expansionDigit_135 : decode cX10_expansionDigit 135 = .ok (.aload_n 0, 1) := by decide +kernel
theorem dX10_expansionDigit_136 : decode cX10_expansionDigit 136 = .ok (.iload 9, 2) := by decide +kernel
theorem dX10_expansionDigit_138 : decode cX10_expansionDigit 138 = .ok (.iconst 1, 1) := by decide +kernel
theorem dX10_expansionDigit_139 : decode cX10_expansionDigit 139 = .ok (.iadd, 1) := by decide +kernel
theorem dX10_expansionDigit_140 : decode cX10_expansionDigit 140 = .ok (.aload_n 0, 1) := by decide +kernel
theorem dX10_expansionDigit_141 : decode cX10_expansionDigit 141 = .ok (.iload_n 1, 1) := by decide +kernel
theorem dX10_expansionDigit_142 : decode cX10_expansionDigit 142 = .ok (.iload 7, 2) := by decide +kernel
theorem dX10_expansionDigit_144 : decode cX10_expansionDigit 144 = .ok (.iload 10, 2) := by decide +kernel
theorem dX10_expansionDigit_146 : decode cX10_expansionDigit 146 = .ok (.invokevirtual 143, 3) := by decide +kernel
theorem dX10_expansionDigit_149 : decode cX10_expansionDigit 149 = .ok (.invokevirtual 146, 3) := by decide +kernel
theorem dX10_expansionDigit_152 : decode cX10_expansionDigit 152 = .ok (.iaload, 1) := by decide +kernel
theorem dX10_expansionDigit_153 : decode cX10_expansionDigit 153 = .ok (.goto 4, 3) := by decide +kernel
theorem dX10_expansionDigit_156 : decode cX10_expansionDigit 156 = .ok (.iconst 0, 1) := by decide +kernel
theorem dX10_expansionDigit_157 : decode cX10_expansionDigit 157 = .ok (.istore 12, 2) := by decide +kernel
theorem dX10_expansionDigit_159 : decode cX10_expansionDigit 159 = .ok (.iload 6, 2) := by decide +kernel
theorem dX10_expansionDigit_161 : decode cX10_expansionDigit 161 = .ok (.iload 12, 2) := by decide +kernel
theorem dX10_expansionDigit_163 : decode cX10_expansionDigit 163 = .ok (.if_icmp .lt 7, 3) := by decide +kernel
theorem dX10_expansionDigit_166 : decode cX10_expansionDigit 166 = .ok (.iconst 1, 1) := by decide +kernel
theorem dX10_expansionDigit_167 : decode cX10_expansionDigit 167 = .ok (.goto 4, 3) := by decide +kernel
theorem dX10_expansionDigit_170 : decode cX10_expansionDigit 170 = .ok (.iconst 0, 1) := by decide +kernel
theorem dX10_expansionDigit_171 : decode cX10_expansionDigit 171 = .ok (.istore 11, 2) := by decide +kernel
theorem dX10_expansionDigit_173 : decode cX10_expansionDigit 173 = .ok (.iload 6, 2) := by decide +kernel
theorem dX10_expansionDigit_175 : decode cX10_expansionDigit 175 = .ok (.iload 11, 2) := by decide +kernel
theorem dX10_expansionDigit_177 : decode cX10_expansionDigit 177 = .ok (.ifCond .eq 8, 3) := by decide +kernel
theorem dX10_expansionDigit_180 : decode cX10_expansionDigit 180 = .ok (.iload 12, 2) := by decide +kernel
theorem dX10_expansionDigit_182 : decode cX10_expansionDigit 182 = .ok (.goto 4, 3) := by decide +kernel
theorem dX10_expansionDigit_185 : decode cX10_expansionDigit 185 = .ok (.iconst 0, 1) := by decide +kernel
theorem dX10_expansionDigit_186 : decode cX10_expansionDigit 186 = .ok (.isub, 1) := by decide +kernel
theorem dX10_expansionDigit_187 : decode cX10_expansionDigit 187 = .ok (.istore 6, 2) := by decide +kernel
theorem dX10_expansionDigit_189 : decode cX10_expansionDigit 189 = .ok (.iload 10, 2) := by decide +kernel
theorem dX10_expansionDigit_191 : decode cX10_expansionDigit 191 = .ok (.iload 11, 2) := by decide +kernel
theorem dX10_expansionDigit_193 : decode cX10_expansionDigit 193 = .ok (.ifCond .eq 7, 3) := by decide +kernel
theorem dX10_expansionDigit_196 : decode cX10_expansionDigit 196 = .ok (.iconst 1, 1) := by decide +kernel
theorem dX10_expansionDigit_197 : decode cX10_expansionDigit 197 = .ok (.goto 4, 3) := by decide +kernel
theorem dX10_expansionDigit_200 : decode cX10_expansionDigit 200 = .ok (.iconst 0, 1) := by decide +kernel
theorem dX10_expansionDigit_201 : decode cX10_expansionDigit 201 = .ok (.iadd, 1) := by decide +kernel
theorem dX10_expansionDigit_202 : decode cX10_expansionDigit 202 = .ok (.istore 10, 2) := by decide +kernel
theorem dX10_expansionDigit_204 : decode cX10_expansionDigit 204 = .ok (.goto (-90), 3) := by decide +kernel
theorem dX10_expansionDigit_207 : decode cX10_expansionDigit 207 = .ok (.aload_n 0, 1) := by decide +kernel
theorem dX10_expansionDigit_208 : decode cX10_expansionDigit 208 = .ok (.getfield 19, 3) := by decide +kernel
theorem dX10_expansionDigit_211 : decode cX10_expansionDigit 211 = .ok (.bipush 12, 2) := by decide +kernel
theorem dX10_expansionDigit_213 : decode cX10_expansionDigit 213 = .ok (.iload_n 1, 1) := by decide +kernel
theorem dX10_expansionDigit_214 : decode cX10_expansionDigit 214 = .ok (.imul, 1) := by decide +kernel
theorem dX10_expansionDigit_215 : decode cX10_expansionDigit 215 = .ok (.iload 10, 2) := by decide +kernel
theorem dX10_expansionDigit_217 : decode cX10_expansionDigit 217 = .ok (.iadd, 1) := by decide +kernel
theorem dX10_expansionDigit_218 : decode cX10_expansionDigit 218 = .ok (.iaload, 1) := by decide +kernel
theorem dX10_expansionDigit_219 : decode cX10_expansionDigit 219 = .ok (.istore 8, 2) := by decide +kernel
theorem dX10_expansionDigit_221 : decode cX10_expansionDigit 221 = .ok (.aload_n 0, 1) := by decide +kernel
theorem dX10_expansionDigit_222 : decode cX10_expansionDigit 222 = .ok (.iload_n 1, 1) := by decide +kernel
theorem dX10_expansionDigit_223 : decode cX10_expansionDigit 223 = .ok (.iload 7, 2) := by decide +kernel
theorem dX10_expansionDigit_225 : decode cX10_expansionDigit 225 = .ok (.iload 10, 2) := by decide +kernel
theorem dX10_expansionDigit_227 : decode cX10_expansionDigit 227 = .ok (.invokevirtual 143, 3) := by decide +kernel
theorem dX10_expansionDigit_230 : decode cX10_expansionDigit 230 = .ok (.istore 7, 2) := by decide +kernel
theorem dX10_expansionDigit_232 : decode cX10_expansionDigit 232 = .ok (.iinc 9 1, 3) := by decide +kernel
theorem dX10_expansionDigit_235 : decode cX10_expansionDigit 235 = .ok (.goto (-134), 3) := by decide +kernel
theorem dX10_expansionDigit_238 : decode cX10_expansionDigit 238 = .ok (.iload 8, 2) := by decide +kernel
theorem dX10_expansionDigit_240 : decode cX10_expansionDigit 240 = .ok (.ireturn, 1) := by decide +kernel
set_option maxRecDepth 20000 in
theorem ggX10_shortest_X10_noSystem : GoodIn wsX10_shortest wsX10_noSystem := goodIn_r _ [10, 11, 12, 9, 13] (by decide +kernel) (by decide +kernel)
set_option maxRecDepth 20000 in
theorem gX10_shortest_X10_noSystem : GoodIn wsX10_shortest (va_wsS RX10 70 yX10_noSystem wsX10_noSystem) := goodIn_app (goodIn_of _ (by decide +kernel)) ggX10_shortest_X10_noSystem
set_option maxRecDepth 20000 in
theorem ggX10_shortest_X10_in : GoodIn wsX10_shortest wsX10_in := goodIn_r _ [13] (by decide +kernel) (by decide +kernel)
set_option maxRecDepth 20000 in
theorem gX10_shortest_X10_in : GoodIn wsX10_shortest (va_wsS RX10 62 yX10_in wsX10_in) := goodIn_app (goodIn_of _ (by decide +kernel)) ggX10_shortest_X10_in
set_option maxRecDepth 20000 in
theorem ggX10_shortest_X10_layLevels : GoodIn wsX10_shortest wsX10_layLevels := goodIn_r _ [17, 18, 19, 20, 5, 21, 22, 23, 24, 9, 25, 26, 27, 28, 29, 30, 31, 32, 33, 34, 35, 36, 37, 38, 39, 40, 41, 42, 43, 44, 45, 46, 47, 48, 49, 50, 51, 52, 53, 54, 55, 56, 57] (by decide +kernel) (by decide +kernel)
set_option maxRecDepth 20000 in
theorem gX10_shortest_X10_layLevels : GoodIn wsX10_shortest (wsV RX10 150 RX10 yX10_layLevels wsX10_layLevels) := goodIn_app (goodIn_of _ (by decide +kernel)) ggX10_shortest_X10_layLevels
theorem dX10_shortest_0 : decode cX10_shortest 0 = .ok (.iload_n 1, 1) := by decide +kernel
theorem dX10_shortest_1 : decode cX10_shortest 1 = .ok (.invokestatic 70, 3) := by decide +kernel
theorem dX10_shortest_4 : decode cX10_shortest 4 = .ok (.ifCond .eq 6, 3) := by decide +kernel
theorem dX10_shortest_7 : decode cX10_shortest 7 = .ok (.ldc 74, 2) := by decide +kernel
theorem dX10_shortest_9 : decode cX10_shortest 9 = .ok (.ireturn, 1) := by decide +kernel
theorem dX10_shortest_10 : decode cX10_shortest 10 = .ok (.iload_n 2, 1) := by decide +kernel
theorem dX10_shortest_11 : decode cX10_shortest 11 = .ok (.ldc 113, 2) := by decide +kernel
theorem dX10_shortest_13 : decode cX10_shortest 13 = .ok (.ldc 114, 2) := by decide +kernel
theorem dX10_shortest_15 : decode cX10_shortest 15 = .ok (.invokestatic 62, 3) := by decide +kernel
theorem dX10_shortest_18 : decode cX10_shortest 18 = .ok (.ifCond .ne 6, 3) := by decide +kernel
theorem dX10_shortest_21 : decode cX10_shortest 21 = .ok (.ldc 79, 2) := by decide +kernel
theorem dX10_shortest_23 : decode cX10_shortest 23 = .ok (.ireturn, 1) := by decide +kernel
theorem dX10_shortest_24 : decode cX10_shortest 24 = .ok (.iconst 0, 1) := by decide +kernel
theorem dX10_shortest_25 : decode cX10_shortest 25 = .ok (.istore_n 3, 1) := by decide +kernel
theorem dX10_shortest_26 : decode cX10_shortest 26 = .ok (.iload_n 3, 1) := by decide +kernel
theorem dX10_shortest_27 : decode cX10_shortest 27 = .ok (.bipush 12, 2) := by decide +kernel
theorem dX10_shortest_29 : decode cX10_shortest 29 = .ok (.if_icmp .gt 27, 3) := by decide +kernel
theorem dX10_shortest_32 : decode cX10_shortest 32 = .ok (.aload_n 0, 1) := by decide +kernel
theorem dX10_shortest_33 : decode cX10_shortest 33 = .ok (.iload_n 1, 1) := by decide +kernel
theorem dX10_shortest_34 : decode cX10_shortest 34 = .ok (.iload_n 2, 1) := by decide +kernel
theorem dX10_shortest_35 : decode cX10_shortest 35 = .ok (.iload_n 3, 1) := by decide +kernel
theorem dX10_shortest_36 : decode cX10_shortest 36 = .ok (.invokevirtual 150, 3) := by decide +kernel
theorem dX10_shortest_39 : decode cX10_shortest 39 = .ok (.aload_n 0, 1) := by decide +kernel
theorem dX10_shortest_40 : decode cX10_shortest 40 = .ok (.getfield 37, 3) := by decide +kernel
theorem dX10_shortest_43 : decode cX10_shortest 43 = .ok (.iconst 0, 1) := by decide +kernel
theorem dX10_shortest_44 : decode cX10_shortest 44 = .ok (.iaload, 1) := by decide +kernel
theorem dX10_shortest_45 : decode cX10_shortest 45 = .ok (.ifCond .le 5, 3) := by decide +kernel
theorem dX10_shortest_48 : decode cX10_shortest 48 = .ok (.iload_n 3, 1) := by decide +kernel
theorem dX10_shortest_49 : decode cX10_shortest 49 = .ok (.ireturn, 1) := by decide +kernel
theorem dX10_shortest_50 : decode cX10_shortest 50 = .ok (.iinc 3 1, 3) := by decide +kernel
theorem dX10_shortest_53 : decode cX10_shortest 53 = .ok (.goto (-27), 3) := by decide +kernel
theorem dX10_shortest_56 : decode cX10_shortest 56 = .ok (.ldc 92, 2) := by decide +kernel
theorem dX10_shortest_58 : decode cX10_shortest 58 = .ok (.ireturn, 1) := by decide +kernel
set_option maxRecDepth 20000 in
theorem ggX10_noRow_X10_in : GoodIn wsX10_noRow wsX10_in := goodIn_r _ [4] (by decide +kernel) (by decide +kernel)
set_option maxRecDepth 20000 in
theorem gX10_noRow_X10_in : GoodIn wsX10_noRow (va_wsS RX10 62 yX10_in wsX10_in) := goodIn_app (goodIn_of _ (by decide +kernel)) ggX10_noRow_X10_in
theorem dX10_noRow_0 : decode cX10_noRow 0 = .ok (.iload_n 0, 1) := by decide +kernel
theorem dX10_noRow_1 : decode cX10_noRow 1 = .ok (.iconst 0, 1) := by decide +kernel
theorem dX10_noRow_2 : decode cX10_noRow 2 = .ok (.iconst 2, 1) := by decide +kernel
theorem dX10_noRow_3 : decode cX10_noRow 3 = .ok (.invokestatic 62, 3) := by decide +kernel
theorem dX10_noRow_6 : decode cX10_noRow 6 = .ok (.ifCond .ne 7, 3) := by decide +kernel
theorem dX10_noRow_9 : decode cX10_noRow 9 = .ok (.iconst 1, 1) := by decide +kernel
theorem dX10_noRow_10 : decode cX10_noRow 10 = .ok (.goto 4, 3) := by decide +kernel
theorem dX10_noRow_13 : decode cX10_noRow 13 = .ok (.iconst 0, 1) := by decide +kernel
theorem dX10_noRow_14 : decode cX10_noRow 14 = .ok (.ireturn, 1) := by decide +kernel
set_option maxRecDepth 20000 in
theorem ggX10_push_X10_noRow : GoodIn wsX10_push wsX10_noRow := goodIn_r _ [9, 10, 11, 8, 12] (by decide +kernel) (by decide +kernel)
set_option maxRecDepth 20000 in
theorem gX10_push_X10_noRow : GoodIn wsX10_push (va_wsS RX10 154 yX10_noRow wsX10_noRow) := goodIn_app (goodIn_of _ (by decide +kernel)) ggX10_push_X10_noRow
set_option maxRecDepth 20000 in
theorem ggX10_push_X10_in : GoodIn wsX10_push wsX10_in := goodIn_r _ [12] (by decide +kernel) (by decide +kernel)
set_option maxRecDepth 20000 in
theorem gX10_push_X10_in : GoodIn wsX10_push (va_wsS RX10 62 yX10_in wsX10_in) := goodIn_app (goodIn_of _ (by decide +kernel)) ggX10_push_X10_in
theorem dX10_push_0 : decode cX10_push 0 = .ok (.iload_n 1, 1) := by decide +kernel
theorem dX10_push_1 : decode cX10_push 1 = .ok (.invokestatic 154, 3) := by decide +kernel
theorem dX10_push_4 : decode cX10_push 4 = .ok (.ifCond .eq 6, 3) := by decide +kernel
theorem dX10_push_7 : decode cX10_push 7 = .ok (.ldc 74, 2) := by decide +kernel
theorem dX10_push_9 : decode cX10_push 9 = .ok (.ireturn, 1) := by decide +kernel
theorem dX10_push_10 : decode cX10_push 10 = .ok (.iload_n 2, 1) := by decide +kernel
theorem dX10_push_11 : decode cX10_push 11 = .ok (.bipush (-20), 2) := by decide +kernel
theorem dX10_push_13 : decode cX10_push 13 = .ok (.bipush 20, 2) := by decide +kernel
theorem dX10_push_15 : decode cX10_push 15 = .ok (.invokestatic 62, 3) := by decide +kernel
theorem dX10_push_18 : decode cX10_push 18 = .ok (.ifCond .ne 6, 3) := by decide +kernel
theorem dX10_push_21 : decode cX10_push 21 = .ok (.ldc 79, 2) := by decide +kernel
theorem dX10_push_23 : decode cX10_push 23 = .ok (.ireturn, 1) := by decide +kernel
theorem dX10_push_24 : decode cX10_push 24 = .ok (.aload_n 0, 1) := by decide +kernel
theorem dX10_push_25 : decode cX10_push 25 = .ok (.getfield 40, 3) := by decide +kernel
theorem dX10_push_28 : decode cX10_push 28 = .ok (.iload_n 1, 1) := by decide +kernel
theorem dX10_push_29 : decode cX10_push 29 = .ok (.iaload, 1) := by decide +kernel
theorem dX10_push_30 : decode cX10_push 30 = .ok (.bipush 12, 2) := by decide +kernel
theorem dX10_push_32 : decode cX10_push 32 = .ok (.if_icmp .ne 6, 3) := by decide +kernel
theorem dX10_push_35 : decode cX10_push 35 = .ok (.ldc 85, 2) := by decide +kernel
theorem dX10_push_37 : decode cX10_push 37 = .ok (.ireturn, 1) := by decide +kernel
theorem dX10_push_38 : decode cX10_push 38 = .ok (.aload_n 0, 1) := by decide +kernel
theorem dX10_push_39 : decode cX10_push 39 = .ok (.getfield 43, 3) := by decide +kernel
theorem dX10_push_42 : decode cX10_push 42 = .ok (.bipush 12, 2) := by decide +kernel
theorem dX10_push_44 : decode cX10_push 44 = .ok (.iload_n 1, 1) := by decide +kernel
theorem dX10_push_45 : decode cX10_push 45 = .ok (.imul, 1) := by decide +kernel
theorem dX10_push_46 : decode cX10_push 46 = .ok (.aload_n 0, 1) := by decide +kernel
theorem dX10_push_47 : decode cX10_push 47 = .ok (.getfield 40, 3) := by decide +kernel
theorem dX10_push_50 : decode cX10_push 50 = .ok (.iload_n 1, 1) := by decide +kernel
theorem dX10_push_51 : decode cX10_push 51 = .ok (.iaload, 1) := by decide +kernel
theorem dX10_push_52 : decode cX10_push 52 = .ok (.iadd, 1) := by decide +kernel
theorem dX10_push_53 : decode cX10_push 53 = .ok (.iload_n 2, 1) := by decide +kernel
theorem dX10_push_54 : decode cX10_push 54 = .ok (.iastore, 1) := by decide +kernel
theorem dX10_push_55 : decode cX10_push 55 = .ok (.aload_n 0, 1) := by decide +kernel
theorem dX10_push_56 : decode cX10_push 56 = .ok (.getfield 40, 3) := by decide +kernel
theorem dX10_push_59 : decode cX10_push 59 = .ok (.iload_n 1, 1) := by decide +kernel
theorem dX10_push_60 : decode cX10_push 60 = .ok (.dup2, 1) := by decide +kernel
theorem dX10_push_61 : decode cX10_push 61 = .ok (.iaload, 1) := by decide +kernel
theorem dX10_push_62 : decode cX10_push 62 = .ok (.iconst 1, 1) := by decide +kernel
theorem dX10_push_63 : decode cX10_push 63 = .ok (.iadd, 1) := by decide +kernel
theorem dX10_push_64 : decode cX10_push 64 = .ok (.iastore, 1) := by decide +kernel
theorem dX10_push_65 : decode cX10_push 65 = .ok (.aload_n 0, 1) := by decide +kernel
theorem dX10_push_66 : decode cX10_push 66 = .ok (.getfield 40, 3) := by decide +kernel
theorem dX10_push_69 : decode cX10_push 69 = .ok (.iload_n 1, 1) := by decide +kernel
theorem dX10_push_70 : decode cX10_push 70 = .ok (.iaload, 1) := by decide +kernel
theorem dX10_push_71 : decode cX10_push 71 = .ok (.ireturn, 1) := by decide +kernel
set_option maxRecDepth 20000 in
theorem ggX10_clear_X10_noRow : GoodIn wsX10_clear wsX10_noRow := goodIn_r _ [6, 7, 8, 5, 9] (by decide +kernel) (by decide +kernel)
set_option maxRecDepth 20000 in
theorem gX10_clear_X10_noRow : GoodIn wsX10_clear (va_wsS RX10 154 yX10_noRow wsX10_noRow) := goodIn_app (goodIn_of _ (by decide +kernel)) ggX10_clear_X10_noRow
theorem dX10_clear_0 : decode cX10_clear 0 = .ok (.iload_n 1, 1) := by decide +kernel
theorem dX10_clear_1 : decode cX10_clear 1 = .ok (.invokestatic 154, 3) := by decide +kernel
theorem dX10_clear_4 : decode cX10_clear 4 = .ok (.ifCond .eq 6, 3) := by decide +kernel
theorem dX10_clear_7 : decode cX10_clear 7 = .ok (.ldc 74, 2) := by decide +kernel
theorem dX10_clear_9 : decode cX10_clear 9 = .ok (.ireturn, 1) := by decide +kernel
theorem dX10_clear_10 : decode cX10_clear 10 = .ok (.aload_n 0, 1) := by decide +kernel
theorem dX10_clear_11 : decode cX10_clear 11 = .ok (.getfield 40, 3) := by decide +kernel
theorem dX10_clear_14 : decode cX10_clear 14 = .ok (.iload_n 1, 1) := by decide +kernel
theorem dX10_clear_15 : decode cX10_clear 15 = .ok (.iaload, 1) := by decide +kernel
theorem dX10_clear_16 : decode cX10_clear 16 = .ok (.istore_n 2, 1) := by decide +kernel
theorem dX10_clear_17 : decode cX10_clear 17 = .ok (.aload_n 0, 1) := by decide +kernel
theorem dX10_clear_18 : decode cX10_clear 18 = .ok (.getfield 40, 3) := by decide +kernel
theorem dX10_clear_21 : decode cX10_clear 21 = .ok (.iload_n 1, 1) := by decide +kernel
theorem dX10_clear_22 : decode cX10_clear 22 = .ok (.iconst 0, 1) := by decide +kernel
theorem dX10_clear_23 : decode cX10_clear 23 = .ok (.iastore, 1) := by decide +kernel
theorem dX10_clear_24 : decode cX10_clear 24 = .ok (.iload_n 2, 1) := by decide +kernel
theorem dX10_clear_25 : decode cX10_clear 25 = .ok (.ireturn, 1) := by decide +kernel
set_option maxRecDepth 20000 in
theorem ggX10_size_X10_noRow : GoodIn wsX10_size wsX10_noRow := goodIn_r _ [6, 7, 8, 5, 9] (by decide +kernel) (by decide +kernel)
set_option maxRecDepth 20000 in
theorem gX10_size_X10_noRow : GoodIn wsX10_size (va_wsS RX10 154 yX10_noRow wsX10_noRow) := goodIn_app (goodIn_of _ (by decide +kernel)) ggX10_size_X10_noRow
theorem dX10_size_0 : decode cX10_size 0 = .ok (.iload_n 1, 1) := by decide +kernel
theorem dX10_size_1 : decode cX10_size 1 = .ok (.invokestatic 154, 3) := by decide +kernel
theorem dX10_size_4 : decode cX10_size 4 = .ok (.ifCond .eq 8, 3) := by decide +kernel
theorem dX10_size_7 : decode cX10_size 7 = .ok (.ldc 74, 2) := by decide +kernel
theorem dX10_size_9 : decode cX10_size 9 = .ok (.goto 9, 3) := by decide +kernel
theorem dX10_size_12 : decode cX10_size 12 = .ok (.aload_n 0, 1) := by decide +kernel
theorem dX10_size_13 : decode cX10_size 13 = .ok (.getfield 40, 3) := by decide +kernel
theorem dX10_size_16 : decode cX10_size 16 = .ok (.iload_n 1, 1) := by decide +kernel
theorem dX10_size_17 : decode cX10_size 17 = .ok (.iaload, 1) := by decide +kernel
theorem dX10_size_18 : decode cX10_size 18 = .ok (.ireturn, 1) := by decide +kernel
set_option maxRecDepth 20000 in
theorem ggX10_entry_X10_noRow : GoodIn wsX10_entry wsX10_noRow := goodIn_r _ [7, 8, 9, 6, 10] (by decide +kernel) (by decide +kernel)
set_option maxRecDepth 20000 in
theorem gX10_entry_X10_noRow : GoodIn wsX10_entry (va_wsS RX10 154 yX10_noRow wsX10_noRow) := goodIn_app (goodIn_of _ (by decide +kernel)) ggX10_entry_X10_noRow
set_option maxRecDepth 20000 in
theorem ggX10_entry_X10_in : GoodIn wsX10_entry wsX10_in := goodIn_r _ [10] (by decide +kernel) (by decide +kernel)
set_option maxRecDepth 20000 in
theorem gX10_entry_X10_in : GoodIn wsX10_entry (va_wsS RX10 62 yX10_in wsX10_in) := goodIn_app (goodIn_of _ (by decide +kernel)) ggX10_entry_X10_in
theorem dX10_entry_0 : decode cX10_entry 0 = .ok (.iload_n 1, 1) := by decide +kernel
theorem dX10_entry_1 : decode cX10_entry 1 = .ok (.invokestatic 154, 3) := by decide +kernel
theorem dX10_entry_4 : decode cX10_entry 4 = .ok (.ifCond .ne 19, 3) := by decide +kernel
theorem dX10_entry_7 : decode cX10_entry 7 = .ok (.iload_n 2, 1) := by decide +kernel
theorem dX10_entry_8 : decode cX10_entry 8 = .ok (.iconst 0, 1) := by decide +kernel
theorem dX10_entry_9 : decode cX10_entry 9 = .ok (.aload_n 0, 1) := by decide +kernel
theorem dX10_entry_10 : decode cX10_entry 10 = .ok (.getfield 40, 3) := by decide +kernel
theorem dX10_entry_13 : decode cX10_entry 13 = .ok (.iload_n 1, 1) := by decide +kernel
theorem dX10_entry_14 : decode cX10_entry 14 = .ok (.iaload, 1) := by decide +kernel
theorem dX10_entry_15 : decode cX10_entry 15 = .ok (.iconst 1, 1) := by decide +kernel
theorem dX10_entry_16 : decode cX10_entry 16 = .ok (.isub, 1) := by decide +kernel
theorem dX10_entry_17 : decode cX10_entry 17 = .ok (.invokestatic 62, 3) := by decide +kernel
theorem dX10_entry_20 : decode cX10_entry 20 = .ok (.ifCond .ne 8, 3) := by decide +kernel
theorem dX10_entry_23 : decode cX10_entry 23 = .ok (.ldc 74, 2) := by decide +kernel
