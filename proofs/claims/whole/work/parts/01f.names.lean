set_option maxRecDepth 20000 in
theorem ggX10_init_X10_lay : GoodIn wsX10_init wsX10_lay := goodIn_r _ [25, 5, 6, 7, 8, 26, 27, 24, 28, 29, 30, 31, 32, 33, 34, 35, 36, 37, 38, 39, 40, 41, 42, 43, 44, 45, 46, 47, 48, 49] (by decide +kernel) (by decide +kernel)
set_option maxRecDepth 20000 in
theorem gX10_init_X10_lay : GoodIn wsX10_init (wsV RX10 56 RX10 yX10_lay wsX10_lay) := goodIn_app (goodIn_of _ (by decide +kernel)) ggX10_init_X10_lay
theorem dX10_init_0 : decode cX10_init 0 = .ok (.aload_n 0, 1) := by decide +kernel
theorem dX10_init_1 : decode cX10_init 1 = .ok (.invokespecial 1, 3) := by decide +kernel
theorem dX10_init_4 : decode cX10_init 4 = .ok (.aload_n 0, 1) := by decide +kernel
theorem dX10_init_5 : decode cX10_init 5 = .ok (.iconst 2, 1) := by decide +kernel
theorem dX10_init_6 : decode cX10_init 6 = .ok (.newarray .int, 2) := by decide +kernel
theorem dX10_init_8 : decode cX10_init 8 = .ok (.putfield 7, 3) := by decide +kernel
theorem dX10_init_11 : decode cX10_init 11 = .ok (.aload_n 0, 1) := by decide +kernel
theorem dX10_init_12 : decode cX10_init 12 = .ok (.iconst 2, 1) := by decide +kernel
theorem dX10_init_13 : decode cX10_init 13 = .ok (.newarray .int, 2) := by decide +kernel
theorem dX10_init_15 : decode cX10_init 15 = .ok (.putfield 13, 3) := by decide +kernel
theorem dX10_init_18 : decode cX10_init 18 = .ok (.aload_n 0, 1) := by decide +kernel
theorem dX10_init_19 : decode cX10_init 19 = .ok (.iconst 2, 1) := by decide +kernel
theorem dX10_init_20 : decode cX10_init 20 = .ok (.newarray .int, 2) := by decide +kernel
theorem dX10_init_22 : decode cX10_init 22 = .ok (.putfield 16, 3) := by decide +kernel
theorem dX10_init_25 : decode cX10_init 25 = .ok (.aload_n 0, 1) := by decide +kernel
theorem dX10_init_26 : decode cX10_init 26 = .ok (.bipush 24, 2) := by decide +kernel
theorem dX10_init_28 : decode cX10_init 28 = .ok (.newarray .int, 2) := by decide +kernel
theorem dX10_init_30 : decode cX10_init 30 = .ok (.putfield 19, 3) := by decide +kernel
theorem dX10_init_33 : decode cX10_init 33 = .ok (.aload_n 0, 1) := by decide +kernel
theorem dX10_init_34 : decode cX10_init 34 = .ok (.bipush 64, 2) := by decide +kernel
theorem dX10_init_36 : decode cX10_init 36 = .ok (.newarray .int, 2) := by decide +kernel
theorem dX10_init_38 : decode cX10_init 38 = .ok (.putfield 22, 3) := by decide +kernel
theorem dX10_init_41 : decode cX10_init 41 = .ok (.aload_n 0, 1) := by decide +kernel
theorem dX10_init_42 : decode cX10_init 42 = .ok (.bipush 64, 2) := by decide +kernel
theorem dX10_init_44 : decode cX10_init 44 = .ok (.newarray .int, 2) := by decide +kernel
theorem dX10_init_46 : decode cX10_init 46 = .ok (.putfield 25, 3) := by decide +kernel
theorem dX10_init_49 : decode cX10_init 49 = .ok (.aload_n 0, 1) := by decide +kernel
theorem dX10_init_50 : decode cX10_init 50 = .ok (.bipush 64, 2) := by decide +kernel
theorem dX10_init_52 : decode cX10_init 52 = .ok (.newarray .int, 2) := by decide +kernel
theorem dX10_init_54 : decode cX10_init 54 = .ok (.putfield 28, 3) := by decide +kernel
theorem dX10_init_57 : decode cX10_init 57 = .ok (.aload_n 0, 1) := by decide +kernel
theorem dX10_init_58 : decode cX10_init 58 = .ok (.bipush 13, 2) := by decide +kernel
theorem dX10_init_60 : decode cX10_init 60 = .ok (.newarray .int, 2) := by decide +kernel
theorem dX10_init_62 : decode cX10_init 62 = .ok (.putfield 31, 3) := by decide +kernel
theorem dX10_init_65 : decode cX10_init 65 = .ok (.aload_n 0, 1) := by decide +kernel
theorem dX10_init_66 : decode cX10_init 66 = .ok (.sipush 1664, 3) := by decide +kernel
theorem dX10_init_69 : decode cX10_init 69 = .ok (.newarray .int, 2) := by decide +kernel
theorem dX10_init_71 : decode cX10_init 71 = .ok (.putfield 34, 3) := by decide +kernel
theorem dX10_init_74 : decode cX10_init 74 = .ok (.aload_n 0, 1) := by decide +kernel
theorem dX10_init_75 : decode cX10_init 75 = .ok (.sipush 1664, 3) := by decide +kernel
theorem dX10_init_78 : decode cX10_init 78 = .ok (.newarray .int, 2) := by decide +kernel
theorem dX10_init_80 : decode cX10_init 80 = .ok (.putfield 37, 3) := by decide +kernel
theorem dX10_init_83 : decode cX10_init 83 = .ok (.aload_n 0, 1) := by decide +kernel
theorem dX10_init_84 : decode cX10_init 84 = .ok (.iconst 3, 1) := by decide +kernel
theorem dX10_init_85 : decode cX10_init 85 = .ok (.newarray .int, 2) := by decide +kernel
theorem dX10_init_87 : decode cX10_init 87 = .ok (.putfield 40, 3) := by decide +kernel
theorem dX10_init_90 : decode cX10_init 90 = .ok (.aload_n 0, 1) := by decide +kernel
theorem dX10_init_91 : decode cX10_init 91 = .ok (.bipush 36, 2) := by decide +kernel
theorem dX10_init_93 : decode cX10_init 93 = .ok (.newarray .int, 2) := by decide +kernel
theorem dX10_init_95 : decode cX10_init 95 = .ok (.putfield 43, 3) := by decide +kernel
theorem dX10_init_98 : decode cX10_init 98 = .ok (.aload_n 0, 1) := by decide +kernel
theorem dX10_init_99 : decode cX10_init 99 = .ok (.bipush 12, 2) := by decide +kernel
theorem dX10_init_101 : decode cX10_init 101 = .ok (.newarray .int, 2) := by decide +kernel
theorem dX10_init_103 : decode cX10_init 103 = .ok (.putfield 46, 3) := by decide +kernel
theorem dX10_init_106 : decode cX10_init 106 = .ok (.aload_n 0, 1) := by decide +kernel
theorem dX10_init_107 : decode cX10_init 107 = .ok (.bipush 12, 2) := by decide +kernel
theorem dX10_init_109 : decode cX10_init 109 = .ok (.newarray .int, 2) := by decide +kernel
theorem dX10_init_111 : decode cX10_init 111 = .ok (.putfield 49, 3) := by decide +kernel
theorem dX10_init_114 : decode cX10_init 114 = .ok (.aload_n 0, 1) := by decide +kernel
theorem dX10_init_115 : decode cX10_init 115 = .ok (.sipush 129, 3) := by decide +kernel
theorem dX10_init_118 : decode cX10_init 118 = .ok (.newarray .boolean, 2) := by decide +kernel
theorem dX10_init_120 : decode cX10_init 120 = .ok (.putfield 52, 3) := by decide +kernel
theorem dX10_init_123 : decode cX10_init 123 = .ok (.aload_n 0, 1) := by decide +kernel
theorem dX10_init_124 : decode cX10_init 124 = .ok (.iconst 0, 1) := by decide +kernel
theorem dX10_init_125 : decode cX10_init 125 = .ok (.bipush 10, 2) := by decide +kernel
theorem dX10_init_127 : decode cX10_init 127 = .ok (.iconst 1, 1) := by decide +kernel
theorem dX10_init_128 : decode cX10_init 128 = .ok (.invokevirtual 56, 3) := by decide +kernel
theorem dX10_init_131 : decode cX10_init 131 = .ok (.aload_n 0, 1) := by decide +kernel
theorem dX10_init_132 : decode cX10_init 132 = .ok (.iconst 1, 1) := by decide +kernel
theorem dX10_init_133 : decode cX10_init 133 = .ok (.bipush 10, 2) := by decide +kernel
theorem dX10_init_135 : decode cX10_init 135 = .ok (.iconst 1, 1) := by decide +kernel
theorem dX10_init_136 : decode cX10_init 136 = .ok (.invokevirtual 56, 3) := by decide +kernel
theorem dX10_init_139 : decode cX10_init 139 = .ok (.return_, 1) := by decide +kernel
theorem dX10_in_0 : decode cX10_in 0 = .ok (.iload_n 0, 1) := by decide +kernel
theorem dX10_in_1 : decode cX10_in 1 = .ok (.iload_n 1, 1) := by decide +kernel
theorem dX10_in_2 : decode cX10_in 2 = .ok (.if_icmp .lt 12, 3) := by decide +kernel
theorem dX10_in_5 : decode cX10_in 5 = .ok (.iload_n 0, 1) := by decide +kernel
theorem dX10_in_6 : decode cX10_in 6 = .ok (.iload_n 2, 1) := by decide +kernel
theorem dX10_in_7 : decode cX10_in 7 = .ok (.if_icmp .gt 7, 3) := by decide +kernel
theorem dX10_in_10 : decode cX10_in 10 = .ok (.iconst 1, 1) := by decide +kernel
theorem dX10_in_11 : decode cX10_in 11 = .ok (.goto 4, 3) := by decide +kernel
theorem dX10_in_14 : decode cX10_in 14 = .ok (.iconst 0, 1) := by decide +kernel
theorem dX10_in_15 : decode cX10_in 15 = .ok (.ireturn, 1) := by decide +kernel
theorem dX10_lost_0 : decode cX10_lost 0 = .ok (.ldc2_w 60, 3) := by decide +kernel
theorem dX10_lost_3 : decode cX10_lost 3 = .ok (.lreturn, 1) := by decide +kernel
theorem dX10_absolute_0 : decode cX10_absolute 0 = .ok (.iload_n 0, 1) := by decide +kernel
theorem dX10_absolute_1 : decode cX10_absolute 1 = .ok (.ifCond .ge 8, 3) := by decide +kernel
theorem dX10_absolute_4 : decode cX10_absolute 4 = .ok (.iload_n 0, 1) := by decide +kernel
theorem dX10_absolute_5 : decode cX10_absolute 5 = .ok (.ineg, 1) := by decide +kernel
theorem dX10_absolute_6 : decode cX10_absolute 6 = .ok (.goto 4, 3) := by decide +kernel
theorem dX10_absolute_9 : decode cX10_absolute 9 = .ok (.iload_n 0, 1) := by decide +kernel
theorem dX10_absolute_10 : decode cX10_absolute 10 = .ok (.ireturn, 1) := by decide +kernel
theorem dX10_common_0 : decode cX10_common 0 = .ok (.lload_n 0, 1) := by decide +kernel
theorem dX10_common_1 : decode cX10_common 1 = .ok (.lconst 0, 1) := by decide +kernel
theorem dX10_common_2 : decode cX10_common 2 = .ok (.lcmp, 1) := by decide +kernel
theorem dX10_common_3 : decode cX10_common 3 = .ok (.ifCond .ge 8, 3) := by decide +kernel
theorem dX10_common_6 : decode cX10_common 6 = .ok (.lload_n 0, 1) := by decide +kernel
theorem dX10_common_7 : decode cX10_common 7 = .ok (.lneg, 1) := by decide +kernel
theorem dX10_common_8 : decode cX10_common 8 = .ok (.goto 4, 3) := by decide +kernel
theorem dX10_common_11 : decode cX10_common 11 = .ok (.lload_n 0, 1) := by decide +kernel
theorem dX10_common_12 : decode cX10_common 12 = .ok (.lstore 4, 2) := by decide +kernel
theorem dX10_common_14 : decode cX10_common 14 = .ok (.lload_n 2, 1) := by decide +kernel
theorem dX10_common_15 : decode cX10_common 15 = .ok (.lstore 6, 2) := by decide +kernel
theorem dX10_common_17 : decode cX10_common 17 = .ok (.lload 6, 2) := by decide +kernel
theorem dX10_common_19 : decode cX10_common 19 = .ok (.lconst 0, 1) := by decide +kernel
theorem dX10_common_20 : decode cX10_common 20 = .ok (.lcmp, 1) := by decide +kernel
theorem dX10_common_21 : decode cX10_common 21 = .ok (.ifCond .eq 21, 3) := by decide +kernel
theorem dX10_common_24 : decode cX10_common 24 = .ok (.lload 4, 2) := by decide +kernel
theorem dX10_common_26 : decode cX10_common 26 = .ok (.lload 6, 2) := by decide +kernel
theorem dX10_common_28 : decode cX10_common 28 = .ok (.lrem, 1) := by decide +kernel
theorem dX10_common_29 : decode cX10_common 29 = .ok (.lstore 8, 2) := by decide +kernel
theorem dX10_common_31 : decode cX10_common 31 = .ok (.lload 6, 2) := by decide +kernel
theorem dX10_common_33 : decode cX10_common 33 = .ok (.lstore 4, 2) := by decide +kernel
theorem dX10_common_35 : decode cX10_common 35 = .ok (.lload 8, 2) := by decide +kernel
theorem dX10_common_37 : decode cX10_common 37 = .ok (.lstore 6, 2) := by decide +kernel
theorem dX10_common_39 : decode cX10_common 39 = .ok (.goto (-22), 3) := by decide +kernel
theorem dX10_common_42 : decode cX10_common 42 = .ok (.lload 4, 2) := by decide +kernel
theorem dX10_common_44 : decode cX10_common 44 = .ok (.lreturn, 1) := by decide +kernel
set_option maxRecDepth 20000 in
theorem ggX10_noSystem_X10_in : GoodIn wsX10_noSystem wsX10_in := goodIn_r _ [4] (by decide +kernel) (by decide +kernel)
set_option maxRecDepth 20000 in
theorem gX10_noSystem_X10_in : GoodIn wsX10_noSystem (va_wsS RX10 62 yX10_in wsX10_in) := goodIn_app (goodIn_of _ (by decide +kernel)) ggX10_noSystem_X10_in
theorem dX10_noSystem_0 : decode cX10_noSystem 0 = .ok (.iload_n 0, 1) := by decide +kernel
theorem dX10_noSystem_1 : decode cX10_noSystem 1 = .ok (.iconst 0, 1) := by decide +kernel
theorem dX10_noSystem_2 : decode cX10_noSystem 2 = .ok (.iconst 1, 1) := by decide +kernel
theorem dX10_noSystem_3 : decode cX10_noSystem 3 = .ok (.invokestatic 62, 3) := by decide +kernel
theorem dX10_noSystem_6 : decode cX10_noSystem 6 = .ok (.ifCond .ne 7, 3) := by decide +kernel
theorem dX10_noSystem_9 : decode cX10_noSystem 9 = .ok (.iconst 1, 1) := by decide +kernel
theorem dX10_noSystem_10 : decode cX10_noSystem 10 = .ok (.goto 4, 3) := by decide +kernel
theorem dX10_noSystem_13 : decode cX10_noSystem 13 = .ok (.iconst 0, 1) := by decide +kernel
theorem dX10_noSystem_14 : decode cX10_noSystem 14 = .ok (.ireturn, 1) := by decide +kernel
set_option maxRecDepth 20000 in
theorem ggX10_lay_X10_absolute : GoodIn wsX10_lay wsX10_absolute := goodIn_r _ [8] (by decide +kernel) (by decide +kernel)
set_option maxRecDepth 20000 in
theorem gX10_lay_X10_absolute : GoodIn wsX10_lay (va_wsS RX10 66 yX10_absolute wsX10_absolute) := goodIn_app (goodIn_of _ (by decide +kernel)) ggX10_lay_X10_absolute
theorem dX10_lay_0 : decode cX10_lay 0 = .ok (.aload_n 0, 1) := by decide +kernel
theorem dX10_lay_1 : decode cX10_lay 1 = .ok (.getfield 7, 3) := by decide +kernel
theorem dX10_lay_4 : decode cX10_lay 4 = .ok (.iload_n 1, 1) := by decide +kernel
theorem dX10_lay_5 : decode cX10_lay 5 = .ok (.iload_n 2, 1) := by decide +kernel
theorem dX10_lay_6 : decode cX10_lay 6 = .ok (.iastore, 1) := by decide +kernel
theorem dX10_lay_7 : decode cX10_lay 7 = .ok (.aload_n 0, 1) := by decide +kernel
theorem dX10_lay_8 : decode cX10_lay 8 = .ok (.getfield 13, 3) := by decide +kernel
theorem dX10_lay_11 : decode cX10_lay 11 = .ok (.iload_n 1, 1) := by decide +kernel
theorem dX10_lay_12 : decode cX10_lay 12 = .ok (.iload_n 3, 1) := by decide +kernel
theorem dX10_lay_13 : decode cX10_lay 13 = .ok (.iastore, 1) := by decide +kernel
theorem dX10_lay_14 : decode cX10_lay 14 = .ok (.aload_n 0, 1) := by decide +kernel
theorem dX10_lay_15 : decode cX10_lay 15 = .ok (.getfield 16, 3) := by decide +kernel
theorem dX10_lay_18 : decode cX10_lay 18 = .ok (.iload_n 1, 1) := by decide +kernel
theorem dX10_lay_19 : decode cX10_lay 19 = .ok (.iload_n 2, 1) := by decide +kernel
theorem dX10_lay_20 : decode cX10_lay 20 = .ok (.invokestatic 66, 3) := by decide +kernel
theorem dX10_lay_23 : decode cX10_lay 23 = .ok (.iastore, 1) := by decide +kernel
theorem dX10_lay_24 : decode cX10_lay 24 = .ok (.iconst 0, 1) := by decide +kernel
theorem dX10_lay_25 : decode cX10_lay 25 = .ok (.istore 4, 2) := by decide +kernel
theorem dX10_lay_27 : decode cX10_lay 27 = .ok (.iload 4, 2) := by decide +kernel
theorem dX10_lay_29 : decode cX10_lay 29 = .ok (.aload_n 0, 1) := by decide +kernel
theorem dX10_lay_30 : decode cX10_lay 30 = .ok (.getfield 16, 3) := by decide +kernel
theorem dX10_lay_33 : decode cX10_lay 33 = .ok (.iload_n 1, 1) := by decide +kernel
theorem dX10_lay_34 : decode cX10_lay 34 = .ok (.iaload, 1) := by decide +kernel
theorem dX10_lay_35 : decode cX10_lay 35 = .ok (.if_icmp .ge 23, 3) := by decide +kernel
theorem dX10_lay_38 : decode cX10_lay 38 = .ok (.aload_n 0, 1) := by decide +kernel
theorem dX10_lay_39 : decode cX10_lay 39 = .ok (.getfield 19, 3) := by decide +kernel
theorem dX10_lay_42 : decode cX10_lay 42 = .ok (.bipush 12, 2) := by decide +kernel
theorem dX10_lay_44 : decode cX10_lay 44 = .ok (.iload_n 1, 1) := by decide +kernel
theorem dX10_lay_45 : decode cX10_lay 45 = .ok (.imul, 1) := by decide +kernel
theorem dX10_lay_46 : decode cX10_lay 46 = .ok (.iload 4, 2) := by decide +kernel
theorem dX10_lay_48 : decode cX10_lay 48 = .ok (.iadd, 1) := by decide +kernel
theorem dX10_lay_49 : decode cX10_lay 49 = .ok (.iload 4, 2) := by decide +kernel
theorem dX10_lay_51 : decode cX10_lay 51 = .ok (.iastore, 1) := by decide +kernel
theorem dX10_lay_52 : decode cX10_lay 52 = .ok (.iinc 4 1, 3) := by decide +kernel
theorem dX10_lay_55 : decode cX10_lay 55 = .ok (.goto (-28), 3) := by decide +kernel
theorem dX10_lay_58 : decode cX10_lay 58 = .ok (.return_, 1) := by decide +kernel
set_option maxRecDepth 20000 in
theorem ggX10_setBase_X10_noSystem : GoodIn wsX10_setBase wsX10_noSystem := goodIn_r _ [6, 7, 8, 5, 9] (by decide +kernel) (by decide +kernel)
set_option maxRecDepth 20000 in
theorem gX10_setBase_X10_noSystem : GoodIn wsX10_setBase (va_wsS RX10 70 yX10_noSystem wsX10_noSystem) := goodIn_app (goodIn_of _ (by decide +kernel)) ggX10_setBase_X10_noSystem
set_option maxRecDepth 20000 in
theorem ggX10_setBase_X10_absolute : GoodIn wsX10_setBase wsX10_absolute := goodIn_r _ [12] (by decide +kernel) (by decide +kernel)
set_option maxRecDepth 20000 in
theorem gX10_setBase_X10_absolute : GoodIn wsX10_setBase (va_wsS RX10 66 yX10_absolute wsX10_absolute) := goodIn_app (goodIn_of _ (by decide +kernel)) ggX10_setBase_X10_absolute
set_option maxRecDepth 20000 in
theorem ggX10_setBase_X10_in : GoodIn wsX10_setBase wsX10_in := goodIn_r _ [9] (by decide +kernel) (by decide +kernel)
set_option maxRecDepth 20000 in
theorem gX10_setBase_X10_in : GoodIn wsX10_setBase (va_wsS RX10 62 yX10_in wsX10_in) := goodIn_app (goodIn_of _ (by decide +kernel)) ggX10_setBase_X10_in
set_option maxRecDepth 20000 in
theorem ggX10_setBase_X10_common : GoodIn wsX10_setBase wsX10_common := goodIn_r _ [15] (by decide +kernel) (by decide +kernel)
set_option maxRecDepth 20000 in
theorem gX10_setBase_X10_common : GoodIn wsX10_setBase (va_wsS RX10 75 yX10_common wsX10_common) := goodIn_app (goodIn_of _ (by decide +kernel)) ggX10_setBase_X10_common
set_option maxRecDepth 20000 in
theorem ggX10_setBase_X10_lay : GoodIn wsX10_setBase wsX10_lay := goodIn_r _ [19, 20, 21, 22, 23, 10, 11, 5, 12, 24, 25, 26, 27, 28, 29, 30, 31, 32, 33, 34, 35, 36, 37, 38, 39, 40, 41, 42, 43, 44] (by decide +kernel) (by decide +kernel)
set_option maxRecDepth 20000 in
theorem gX10_setBase_X10_lay : GoodIn wsX10_setBase (wsV RX10 56 RX10 yX10_lay wsX10_lay) := goodIn_app (goodIn_of _ (by decide +kernel)) ggX10_setBase_X10_lay
theorem dX10_setBase_0 : decode cX10_setBase 0 = .ok (.iload_n 1, 1) := by decide +kernel
theorem dX10_setBase_1 : decode cX10_setBase 1 = .ok (.invokestatic 70, 3) := by decide +kernel
theorem dX10_setBase_4 : decode cX10_setBase 4 = .ok (.ifCond .eq 6, 3) := by decide +kernel
theorem dX10_setBase_7 : decode cX10_setBase 7 = .ok (.ldc 74, 2) := by decide +kernel
theorem dX10_setBase_9 : decode cX10_setBase 9 = .ok (.ireturn, 1) := by decide +kernel
theorem dX10_setBase_10 : decode cX10_setBase 10 = .ok (.iload_n 2, 1) := by decide +kernel
theorem dX10_setBase_11 : decode cX10_setBase 11 = .ok (.invokestatic 66, 3) := by decide +kernel
theorem dX10_setBase_14 : decode cX10_setBase 14 = .ok (.iconst 2, 1) := by decide +kernel
theorem dX10_setBase_15 : decode cX10_setBase 15 = .ok (.bipush 10, 2) := by decide +kernel
theorem dX10_setBase_17 : decode cX10_setBase 17 = .ok (.invokestatic 62, 3) := by decide +kernel
theorem dX10_setBase_20 : decode cX10_setBase 20 = .ok (.ifCond .eq 33, 3) := by decide +kernel
theorem dX10_setBase_23 : decode cX10_setBase 23 = .ok (.iload_n 3, 1) := by decide +kernel
theorem dX10_setBase_24 : decode cX10_setBase 24 = .ok (.iconst 1, 1) := by decide +kernel
theorem dX10_setBase_25 : decode cX10_setBase 25 = .ok (.bipush 9, 2) := by decide +kernel
theorem dX10_setBase_27 : decode cX10_setBase 27 = .ok (.invokestatic 62, 3) := by decide +kernel
theorem dX10_setBase_30 : decode cX10_setBase 30 = .ok (.ifCond .eq 23, 3) := by decide +kernel
theorem dX10_setBase_33 : decode cX10_setBase 33 = .ok (.iload_n 3, 1) := by decide +kernel
theorem dX10_setBase_34 : decode cX10_setBase 34 = .ok (.iload_n 2, 1) := by decide +kernel
theorem dX10_setBase_35 : decode cX10_setBase 35 = .ok (.invokestatic 66, 3) := by decide +kernel
theorem dX10_setBase_38 : decode cX10_setBase 38 = .ok (.if_icmp .ge 15, 3) := by decide +kernel
theorem dX10_setBase_41 : decode cX10_setBase 41 = .ok (.iload_n 2, 1) := by decide +kernel
theorem dX10_setBase_42 : decode cX10_setBase 42 = .ok (.i2l, 1) := by decide +kernel
theorem dX10_setBase_43 : decode cX10_setBase 43 = .ok (.iload_n 3, 1) := by decide +kernel
theorem dX10_setBase_44 : decode cX10_setBase 44 = .ok (.i2l, 1) := by decide +kernel
theorem dX10_setBase_45 : decode cX10_setBase 45 = .ok (.invokestatic 75, 3) := by decide +kernel
theorem dX10_setBase_48 : decode cX10_setBase 48 = .ok (.lconst 1, 1) := by decide +kernel
theorem dX10_setBase_49 : decode cX10_setBase 49 = .ok (.lcmp, 1) := by decide +kernel
theorem dX10_setBase_50 : decode cX10_setBase 50 = .ok (.ifCond .eq 6, 3) := by decide +kernel
theorem dX10_setBase_53 : decode cX10_setBase 53 = .ok (.ldc 79, 2) := by decide +kernel
theorem dX10_setBase_55 : decode cX10_setBase 55 = .ok (.ireturn, 1) := by decide +kernel
theorem dX10_setBase_56 : decode cX10_setBase 56 = .ok (.aload_n 0, 1) := by decide +kernel
theorem dX10_setBase_57 : decode cX10_setBase 57 = .ok (.iload_n 1, 1) := by decide +kernel
theorem dX10_setBase_58 : decode cX10_setBase 58 = .ok (.iload_n 2, 1) := by decide +kernel
theorem dX10_setBase_59 : decode cX10_setBase 59 = .ok (.iload_n 3, 1) := by decide +kernel
theorem dX10_setBase_60 : decode cX10_setBase 60 = .ok (.invokevirtual 56, 3) := by decide +kernel
theorem dX10_setBase_63 : decode cX10_setBase 63 = .ok (.iload_n 2, 1) := by decide +kernel
theorem dX10_setBase_64 : decode cX10_setBase 64 = .ok (.invokestatic 66, 3) := by decide +kernel
theorem dX10_setBase_67 : decode cX10_setBase 67 = .ok (.ireturn, 1) := by decide +kernel
theorem dX10_placeOf_0 : decode cX10_placeOf 0 = .ok (.iconst 0, 1) := by decide +kernel
theorem dX10_placeOf_1 : decode cX10_placeOf 1 = .ok (.istore_n 3, 1) := by decide +kernel
theorem dX10_placeOf_2 : decode cX10_placeOf 2 = .ok (.iload_n 3, 1) := by decide +kernel
theorem dX10_placeOf_3 : decode cX10_placeOf 3 = .ok (.aload_n 0, 1) := by decide +kernel
theorem dX10_placeOf_4 : decode cX10_placeOf 4 = .ok (.getfield 16, 3) := by decide +kernel
theorem dX10_placeOf_7 : decode cX10_placeOf 7 = .ok (.iload_n 1, 1) := by decide +kernel
theorem dX10_placeOf_8 : decode cX10_placeOf 8 = .ok (.iaload, 1) := by decide +kernel
theorem dX10_placeOf_9 : decode cX10_placeOf 9 = .ok (.if_icmp .ge 26, 3) := by decide +kernel
theorem dX10_placeOf_12 : decode cX10_placeOf 12 = .ok (.aload_n 0, 1) := by decide +kernel
theorem dX10_placeOf_13 : decode cX10_placeOf 13 = .ok (.getfield 19, 3) := by decide +kernel
theorem dX10_placeOf_16 : decode cX10_placeOf 16 = .ok (.bipush 12, 2) := by decide +kernel
theorem dX10_placeOf_18 : decode cX10_placeOf 18 = .ok (.iload_n 1, 1) := by decide +kernel
theorem dX10_placeOf_19 : decode cX10_placeOf 19 = .ok (.imul, 1) := by decide +kernel
theorem dX10_placeOf_20 : decode cX10_placeOf 20 = .ok (.iload_n 3, 1) := by decide +kernel
theorem dX10_placeOf_21 : decode cX10_placeOf 21 = .ok (.iadd, 1) := by decide +kernel
theorem dX10_placeOf_22 : decode cX10_placeOf 22 = .ok (.iaload, 1) := by decide +kernel
theorem dX10_placeOf_23 : decode cX10_placeOf 23 = .ok (.iload_n 2, 1) := by decide +kernel
theorem dX10_placeOf_24 : decode cX10_placeOf 24 = .ok (.if_icmp .ne 5, 3) := by decide +kernel
theorem dX10_placeOf_27 : decode cX10_placeOf 27 = .ok (.iload_n 3, 1) := by decide +kernel
theorem dX10_placeOf_28 : decode cX10_placeOf 28 = .ok (.ireturn, 1) := by decide +kernel
theorem dX10_placeOf_29 : decode cX10_placeOf 29 = .ok (.iinc 3 1, 3) := by decide +kernel
theorem dX10_placeOf_32 : decode cX10_placeOf 32 = .ok (.goto (-30), 3) := by decide +kernel
theorem dX10_placeOf_35 : decode cX10_placeOf 35 = .ok (.iconst (-1), 1) := by decide +kernel
theorem dX10_placeOf_36 : decode cX10_placeOf 36 = .ok (.ireturn, 1) := by decide +kernel
set_option maxRecDepth 20000 in
theorem ggX10_addDigit_X10_noSystem : GoodIn wsX10_addDigit wsX10_noSystem := goodIn_r _ [10, 11, 12, 9, 13] (by decide +kernel) (by decide +kernel)
set_option maxRecDepth 20000 in
theorem gX10_addDigit_X10_noSystem : GoodIn wsX10_addDigit (va_wsS RX10 70 yX10_noSystem wsX10_noSystem) := goodIn_app (goodIn_of _ (by decide +kernel)) ggX10_addDigit_X10_noSystem
set_option maxRecDepth 20000 in
theorem ggX10_addDigit_X10_in : GoodIn wsX10_addDigit wsX10_in := goodIn_r _ [13] (by decide +kernel) (by decide +kernel)
set_option maxRecDepth 20000 in
theorem gX10_addDigit_X10_in : GoodIn wsX10_addDigit (va_wsS RX10 62 yX10_in wsX10_in) := goodIn_app (goodIn_of _ (by decide +kernel)) ggX10_addDigit_X10_in
set_option maxRecDepth 20000 in
theorem ggX10_addDigit_X10_placeOf : GoodIn wsX10_addDigit wsX10_placeOf := goodIn_r _ [17, 4, 6, 18, 19, 20, 21, 22, 23, 24, 25, 26, 27, 28, 29, 30, 31, 32, 33, 34, 35, 36, 37, 38] (by decide +kernel) (by decide +kernel)
set_option maxRecDepth 20000 in
theorem gX10_addDigit_X10_placeOf : GoodIn wsX10_addDigit (wsV RX10 80 RX10 yX10_placeOf wsX10_placeOf) := goodIn_app (goodIn_of _ (by decide +kernel)) ggX10_addDigit_X10_placeOf
theorem dX10_addDigit_0 : decode cX10_addDigit 0 = .ok (.iload_n 1, 1) := by decide +kernel
theorem dX10_addDigit_1 : decode cX10_addDigit 1 = .ok (.invokestatic 70, 3) := by decide +kernel
theorem dX10_addDigit_4 : decode cX10_addDigit 4 = .ok (.ifCond .eq 6, 3) := by decide +kernel
theorem dX10_addDigit_7 : decode cX10_addDigit 7 = .ok (.ldc 74, 2) := by decide +kernel
theorem dX10_addDigit_9 : decode cX10_addDigit 9 = .ok (.ireturn, 1) := by decide +kernel
theorem dX10_addDigit_10 : decode cX10_addDigit 10 = .ok (.iload_n 2, 1) := by decide +kernel
theorem dX10_addDigit_11 : decode cX10_addDigit 11 = .ok (.bipush (-20), 2) := by decide +kernel
theorem dX10_addDigit_13 : decode cX10_addDigit 13 = .ok (.bipush 20, 2) := by decide +kernel
theorem dX10_addDigit_15 : decode cX10_addDigit 15 = .ok (.invokestatic 62, 3) := by decide +kernel
theorem dX10_addDigit_18 : decode cX10_addDigit 18 = .ok (.ifCond .ne 6, 3) := by decide +kernel
theorem dX10_addDigit_21 : decode cX10_addDigit 21 = .ok (.ldc 79, 2) := by decide +kernel
theorem dX10_addDigit_23 : decode cX10_addDigit 23 = .ok (.ireturn, 1) := by decide +kernel
theorem dX10_addDigit_24 : decode cX10_addDigit 24 = .ok (.aload_n 0, 1) := by decide +kernel
theorem dX10_addDigit_25 : decode cX10_addDigit 25 = .ok (.iload_n 1, 1) := by decide +kernel
theorem dX10_addDigit_26 : decode cX10_addDigit 26 = .ok (.iload_n 2, 1) := by decide +kernel
theorem dX10_addDigit_27 : decode cX10_addDigit 27 = .ok (.invokevirtual 80, 3) := by decide +kernel
theorem dX10_addDigit_30 : decode cX10_addDigit 30 = .ok (.ifCond .lt 6, 3) := by decide +kernel
theorem dX10_addDigit_33 : decode cX10_addDigit 33 = .ok (.ldc 84, 2) := by decide +kernel
theorem dX10_addDigit_35 : decode cX10_addDigit 35 = .ok (.ireturn, 1) := by decide +kernel
theorem dX10_addDigit_36 : decode cX10_addDigit 36 = .ok (.aload_n 0, 1) := by decide +kernel
theorem dX10_addDigit_37 : decode cX10_addDigit 37 = .ok (.getfield 16, 3) := by decide +kernel
theorem dX10_addDigit_40 : decode cX10_addDigit 40 = .ok (.iload_n 1, 1) := by decide +kernel
theorem dX10_addDigit_41 : decode cX10_addDigit 41 = .ok (.iaload, 1) := by decide +kernel
theorem dX10_addDigit_42 : decode cX10_addDigit 42 = .ok (.bipush 12, 2) := by decide +kernel
theorem dX10_addDigit_44 : decode cX10_addDigit 44 = .ok (.if_icmp .ne 6, 3) := by decide +kernel
theorem dX10_addDigit_47 : decode cX10_addDigit 47 = .ok (.ldc 85, 2) := by decide +kernel
theorem dX10_addDigit_49 : decode cX10_addDigit 49 = .ok (.ireturn, 1) := by decide +kernel
theorem dX10_addDigit_50 : decode cX10_addDigit 50 = .ok (.aload_n 0, 1) := by decide +kernel
theorem dX10_addDigit_51 : decode cX10_addDigit 51 = .ok (.getfield 19, 3) := by decide +kernel
theorem dX10_addDigit_54 : decode cX10_addDigit 54 = .ok (.bipush 12, 2) := by decide +kernel
theorem dX10_addDigit_56 : decode cX10_addDigit 56 = .ok (.iload_n 1, 1) := by decide +kernel
theorem dX10_addDigit_57 : decode cX10_addDigit 57 = .ok (.imul, 1) := by decide +kernel
theorem dX10_addDigit_58 : decode cX10_addDigit 58 = .ok (.aload_n 0, 1) := by decide +kernel
theorem dX10_addDigit_59 : decode cX10_addDigit 59 = .ok (.getfield 16, 3) := by decide +kernel
theorem dX10_addDigit_62 : decode cX10_addDigit 62 = .ok (.iload_n 1, 1) := by decide +kernel
theorem dX10_addDigit_63 : decode cX10_addDigit 63 = .ok (.iaload, 1) := by decide +kernel
theorem dX10_addDigit_64 : decode cX10_addDigit 64 = .ok (.iadd, 1) := by decide +kernel
theorem dX10_addDigit_65 : decode cX10_addDigit 65 = .ok (.iload_n 2, 1) := by decide +kernel
theorem dX10_addDigit_66 : decode cX10_addDigit 66 = .ok (.iastore, 1) := by decide +kernel
theorem dX10_addDigit_67 : decode cX10_addDigit 67 = .ok (.aload_n 0, 1) := by decide +kernel
theorem dX10_addDigit_68 : decode cX10_addDigit 68 = .ok (.getfield 16, 3) := by decide +kernel
theorem dX10_addDigit_71 : decode cX10_addDigit 71 = .ok (.iload_n 1, 1) := by decide +kernel
theorem dX10_addDigit_72 : decode cX10_addDigit 72 = .ok (.dup2, 1) := by decide +kernel
theorem dX10_addDigit_73 : decode cX10_addDigit 73 = .ok (.iaload, 1) := by decide +kernel
theorem dX10_addDigit_74 : decode cX10_addDigit 74 = .ok (.iconst 1, 1) := by decide +kernel
theorem dX10_addDigit_75 : decode cX10_addDigit 75 = .ok (.iadd, 1) := by decide +kernel
theorem dX10_addDigit_76 : decode cX10_addDigit 76 = .ok (.iastore, 1) := by decide +kernel
theorem dX10_addDigit_77 : decode cX10_addDigit 77 = .ok (.aload_n 0, 1) := by decide +kernel
theorem dX10_addDigit_78 : decode cX10_addDigit 78 = .ok (.getfield 16, 3) := by decide +kernel
theorem dX10_addDigit_81 : decode cX10_addDigit 81 = .ok (.iload_n 1, 1) := by decide +kernel
theorem dX10_addDigit_82 : decode cX10_addDigit 82 = .ok (.iaload, 1) := by decide +kernel
theorem dX10_addDigit_83 : decode cX10_addDigit 83 = .ok (.ireturn, 1) := by decide +kernel
set_option maxRecDepth 20000 in
theorem ggX10_removeDigit_X10_noSystem : GoodIn wsX10_removeDigit wsX10_noSystem := goodIn_r _ [8, 9, 10, 7, 11] (by decide +kernel) (by decide +kernel)
set_option maxRecDepth 20000 in
theorem gX10_removeDigit_X10_noSystem : GoodIn wsX10_removeDigit (va_wsS RX10 70 yX10_noSystem wsX10_noSystem) := goodIn_app (goodIn_of _ (by decide +kernel)) ggX10_removeDigit_X10_noSystem
set_option maxRecDepth 20000 in
theorem ggX10_removeDigit_X10_placeOf : GoodIn wsX10_removeDigit wsX10_placeOf := goodIn_r _ [15, 3, 4, 16, 17, 18, 19, 20, 21, 22, 23, 24, 25, 26, 27, 28, 29, 30, 31, 32, 33, 34, 35, 36] (by decide +kernel) (by decide +kernel)
set_option maxRecDepth 20000 in
theorem gX10_removeDigit_X10_placeOf : GoodIn wsX10_removeDigit (wsV RX10 80 RX10 yX10_placeOf wsX10_placeOf) := goodIn_app (goodIn_of _ (by decide +kernel)) ggX10_removeDigit_X10_placeOf
theorem dX10_removeDigit_0 : decode cX10_removeDigit 0 = .ok (.iload_n 1, 1) := by decide +kernel
theorem dX10_removeDigit_1 : decode cX10_removeDigit 1 = .ok (.invokestatic 70, 3) := by decide +kernel
theorem dX10_removeDigit_4 : decode cX10_removeDigit 4 = .ok (.ifCond .eq 6, 3) := by decide +kernel
theorem dX10_removeDigit_7 : decode cX10_removeDigit 7 = .ok (.ldc 74, 2) := by decide +kernel
theorem dX10_removeDigit_9 : decode cX10_removeDigit 9 = .ok (.ireturn, 1) := by decide +kernel
theorem dX10_removeDigit_10 : decode cX10_removeDigit 10 = .ok (.aload_n 0, 1) := by decide +kernel
theorem dX10_removeDigit_11 : decode cX10_removeDigit 11 = .ok (.iload_n 1, 1) := by decide +kernel
theorem dX10_removeDigit_12 : decode cX10_removeDigit 12 = .ok (.iload_n 2, 1) := by decide +kernel
theorem dX10_removeDigit_13 : decode cX10_removeDigit 13 = .ok (.invokevirtual 80, 3) := by decide +kernel
theorem dX10_removeDigit_16 : decode cX10_removeDigit 16 = .ok (.istore_n 3, 1) := by decide +kernel
theorem dX10_removeDigit_17 : decode cX10_removeDigit 17 = .ok (.iload_n 3, 1) := by decide +kernel
theorem dX10_removeDigit_18 : decode cX10_removeDigit 18 = .ok (.ifCond .ge 6, 3) := by decide +kernel
theorem dX10_removeDigit_21 : decode cX10_removeDigit 21 = .ok (.ldc 84, 2) := by decide +kernel
theorem dX10_removeDigit_23 : decode cX10_removeDigit 23 = .ok (.ireturn, 1) := by decide +kernel
theorem dX10_removeDigit_24 : decode cX10_removeDigit 24 = .ok (.aload_n 0, 1) := by decide +kernel
theorem dX10_removeDigit_25 : decode cX10_removeDigit 25 = .ok (.getfield 16, 3) := by decide +kernel
theorem dX10_removeDigit_28 : decode cX10_removeDigit 28 = .ok (.iload_n 1, 1) := by decide +kernel
theorem dX10_removeDigit_29 : decode cX10_removeDigit 29 = .ok (.dup2, 1) := by decide +kernel
theorem dX10_removeDigit_30 : decode cX10_removeDigit 30 = .ok (.iaload, 1) := by decide +kernel
theorem dX10_removeDigit_31 : decode cX10_removeDigit 31 = .ok (.iconst 1, 1) := by decide +kernel
theorem dX10_removeDigit_32 : decode cX10_removeDigit 32 = .ok (.isub, 1) := by decide +kernel
theorem dX10_removeDigit_33 : decode cX10_removeDigit 33 = .ok (.iastore, 1) := by decide +kernel
theorem dX10_removeDigit_34 : decode cX10_removeDigit 34 = .ok (.iload_n 3, 1) := by decide +kernel
theorem dX10_removeDigit_35 : decode cX10_removeDigit 35 = .ok (.istore 4, 2) := by decide +kernel
theorem dX10_removeDigit_37 : decode cX10_removeDigit 37 = .ok (.iload 4, 2) := by decide +kernel
theorem dX10_removeDigit_39 : decode cX10_removeDigit 39 = .ok (.aload_n 0, 1) := by decide +kernel
theorem dX10_removeDigit_40 : decode cX10_removeDigit 40 = .ok (.getfield 16, 3) := by decide +kernel
theorem dX10_removeDigit_43 : decode cX10_removeDigit 43 = .ok (.iload_n 1, 1) := by decide +kernel
theorem dX10_removeDigit_44 : decode cX10_removeDigit 44 = .ok (.iaload, 1) := by decide +kernel
theorem dX10_removeDigit_45 : decode cX10_removeDigit 45 = .ok (.if_icmp .ge 35, 3) := by decide +kernel
theorem dX10_removeDigit_48 : decode cX10_removeDigit 48 = .ok (.aload_n 0, 1) := by decide +kernel
theorem dX10_removeDigit_49 : decode cX10_removeDigit 49 = .ok (.getfield 19, 3) := by decide +kernel
theorem dX10_removeDigit_52 : decode cX10_removeDigit 52 = .ok (.bipush 12, 2) := by decide +kernel
theorem dX10_removeDigit_54 : decode cX10_removeDigit 54 = .ok (.iload_n 1, 1) := by decide +kernel
theorem dX10_removeDigit_55 : decode cX10_removeDigit 55 = .ok (.imul, 1) := by decide +kernel
theorem dX10_removeDigit_56 : decode cX10_removeDigit 56 = .ok (.iload 4, 2) := by decide +kernel
theorem dX10_removeDigit_58 : decode cX10_removeDigit 58 = .ok (.iadd, 1) := by decide +kernel
theorem dX10_removeDigit_59 : decode cX10_removeDigit 59 = .ok (.aload_n 0, 1) := by decide +kernel
theorem dX10_removeDigit_60 : decode cX10_removeDigit 60 = .ok (.getfield 19, 3) := by decide +kernel
theorem dX10_removeDigit_63 : decode cX10_removeDigit 63 = .ok (.bipush 12, 2) := by decide +kernel
theorem dX10_removeDigit_65 : decode cX10_removeDigit 65 = .ok (.iload_n 1, 1) := by decide +kernel
theorem dX10_removeDigit_66 : decode cX10_removeDigit 66 = .ok (.imul, 1) := by decide +kernel
theorem dX10_removeDigit_67 : decode cX10_removeDigit 67 = .ok (.iload 4, 2) := by decide +kernel
theorem dX10_removeDigit_69 : decode cX10_removeDigit 69 = .ok (.iadd, 1) := by decide +kernel
theorem dX10_removeDigit_70 : decode cX10_removeDigit 70 = .ok (.iconst 1, 1) := by decide +kernel
theorem dX10_removeDigit_71 : decode cX10_removeDigit 71 = .ok (.iadd, 1) := by decide +kernel
theorem dX10_removeDigit_72 : decode cX10_removeDigit 72 = .ok (.iaload, 1) := by decide +kernel
theorem dX10_removeDigit_73 : decode cX10_removeDigit 73 = .ok (.iastore, 1) := by decide +kernel
theorem dX10_removeDigit_74 : decode cX10_removeDigit 74 = .ok (.iinc 4 1, 3) := by decide +kernel
theorem dX10_removeDigit_77 : decode cX10_removeDigit 77 = .ok (.goto (-40), 3) := by decide +kernel
theorem dX10_removeDigit_80 : decode cX10_removeDigit 80 = .ok (.aload_n 0, 1) := by decide +kernel
theorem dX10_removeDigit_81 : decode cX10_removeDigit 81 = .ok (.getfield 16, 3) := by decide +kernel
theorem dX10_removeDigit_84 : decode cX10_removeDigit 84 = .ok (.iload_n 1, 1) := by decide +kernel
theorem dX10_removeDigit_85 : decode cX10_removeDigit 85 = .ok (.iaload, 1) := by decide +kernel
theorem dX10_removeDigit_86 : decode cX10_removeDigit 86 = .ok (.ireturn, 1) := by decide +kernel
set_option maxRecDepth 20000 in
theorem ggX10_choose_X10_noSystem : GoodIn wsX10_choose wsX10_noSystem := goodIn_r _ [7, 8, 9, 6, 10] (by decide +kernel) (by decide +kernel)
set_option maxRecDepth 20000 in
theorem gX10_choose_X10_noSystem : GoodIn wsX10_choose (va_wsS RX10 70 yX10_noSystem wsX10_noSystem) := goodIn_app (goodIn_of _ (by decide +kernel)) ggX10_choose_X10_noSystem
set_option maxRecDepth 20000 in
theorem ggX10_choose_X10_placeOf : GoodIn wsX10_choose wsX10_placeOf := goodIn_r _ [14, 15, 3, 16, 17, 18, 19, 20, 21, 22, 23, 24, 25, 26, 27, 28, 29, 30, 31, 32, 33, 34, 35, 36] (by decide +kernel) (by decide +kernel)
set_option maxRecDepth 20000 in
theorem gX10_choose_X10_placeOf : GoodIn wsX10_choose (wsV RX10 80 RX10 yX10_placeOf wsX10_placeOf) := goodIn_app (goodIn_of _ (by decide +kernel)) ggX10_choose_X10_placeOf
theorem dX10_choose_0 : decode cX10_choose 0 = .ok (.iload_n 1, 1) := by decide +kernel
theorem dX10_choose_1 : decode cX10_choose 1 = .ok (.invokestatic 70, 3) := by decide +kernel
theorem dX10_choose_4 : decode cX10_choose 4 = .ok (.ifCond .eq 6, 3) := by decide +kernel
theorem dX10_choose_7 : decode cX10_choose 7 = .ok (.ldc 74, 2) := by decide +kernel
theorem dX10_choose_9 : decode cX10_choose 9 = .ok (.ireturn, 1) := by decide +kernel
theorem dX10_choose_10 : decode cX10_choose 10 = .ok (.aload_n 0, 1) := by decide +kernel
theorem dX10_choose_11 : decode cX10_choose 11 = .ok (.iload_n 1, 1) := by decide +kernel
theorem dX10_choose_12 : decode cX10_choose 12 = .ok (.iload_n 2, 1) := by decide +kernel
theorem dX10_choose_13 : decode cX10_choose 13 = .ok (.invokevirtual 80, 3) := by decide +kernel
theorem dX10_choose_16 : decode cX10_choose 16 = .ok (.istore_n 3, 1) := by decide +kernel
theorem dX10_choose_17 : decode cX10_choose 17 = .ok (.iload_n 3, 1) := by decide +kernel
theorem dX10_choose_18 : decode cX10_choose 18 = .ok (.ifCond .ge 6, 3) := by decide +kernel
theorem dX10_choose_21 : decode cX10_choose 21 = .ok (.ldc 84, 2) := by decide +kernel
theorem dX10_choose_23 : decode cX10_choose 23 = .ok (.ireturn, 1) := by decide +kernel
theorem dX10_choose_24 : decode cX10_choose 24 = .ok (.iload_n 3, 1) := by decide +kernel
theorem dX10_choose_25 : decode cX10_choose 25 = .ok (.istore 4, 2) := by decide +kernel
theorem dX10_choose_27 : decode cX10_choose 27 = .ok (.iload 4, 2) := by decide +kernel
theorem dX10_choose_29 : decode cX10_choose 29 = .ok (.ifCond .le 35, 3) := by decide +kernel
theorem dX10_choose_32 : decode cX10_choose 32 = .ok (.aload_n 0, 1) := by decide +kernel
theorem dX10_choose_33 : decode cX10_choose 33 = .ok (.getfield 19, 3) := by decide +kernel
theorem dX10_choose_36 : decode cX10_choose 36 = .ok (.bipush 12, 2) := by decide +kernel
theorem dX10_choose_38 : decode cX10_choose 38 = .ok (.iload_n 1, 1) := by decide +kernel
theorem dX10_choose_39 : decode cX10_choose 39 = .ok (.imul, 1) := by decide +kernel
theorem dX10_choose_40 : decode cX10_choose 40 = .ok (.iload 4, 2) := by decide +kernel
theorem dX10_choose_42 : decode cX10_choose 42 = .ok (.iadd, 1) := by decide +kernel
theorem dX10_choose_43 : decode cX10_choose 43 = .ok (.aload_n 0, 1) := by decide +kernel
theorem dX10_choose_44 : decode cX10_choose 44 = .ok (.getfield 19, 3) := by decide +kernel
theorem dX10_choose_47 : decode cX10_choose 47 = .ok (.bipush 12, 2) := by decide +kernel
theorem dX10_choose_49 : decode cX10_choose 49 = .ok (.iload_n 1, 1) := by decide +kernel
theorem dX10_choose_50 : decode cX10_choose 50 = .ok (.imul, 1) := by decide +kernel
theorem dX10_choose_51 : decode cX10_choose 51 = .ok (.iload 4, 2) := by decide +kernel
theorem dX10_choose_53 : decode cX10_choose 53 = .ok (.iadd, 1) := by decide +kernel
theorem dX10_choose_54 : decode cX10_choose 54 = .ok (.iconst 1, 1) := by decide +kernel
theorem dX10_choose_55 : decode cX10_choose 55 = .ok (.isub, 1) := by decide +kernel
theorem dX10_choose_56 : decode cX10_choose 56 = .ok (.iaload, 1) := by decide +kernel
theorem dX10_choose_57 : decode cX10_choose 57 = .ok (.iastore, 1) := by decide +kernel
theorem dX10_choose_58 : decode cX10_choose 58 = .ok (.iinc 4 (-1), 3) := by decide +kernel
theorem dX10_choose_61 : decode cX10_choose 61 = .ok (.goto (-34), 3) := by decide +kernel
theorem dX10_choose_64 : decode cX10_choose 64 = .ok (.aload_n 0, 1) := by decide +kernel
theorem dX10_choose_65 : decode cX10_choose 65 = .ok (.getfield 19, 3) := by decide +kernel
theorem dX10_choose_68 : decode cX10_choose 68 = .ok (.bipush 12, 2) := by decide +kernel
theorem dX10_choose_70 : decode cX10_choose 70 = .ok (.iload_n 1, 1) := by decide +kernel
theorem dX10_choose_71 : decode cX10_choose 71 = .ok (.imul, 1) := by decide +kernel
theorem dX10_choose_72 : decode cX10_choose 72 = .ok (.iload_n 2, 1) := by decide +kernel
theorem dX10_choose_73 : decode cX10_choose 73 = .ok (.iastore, 1) := by decide +kernel
theorem dX10_choose_74 : decode cX10_choose 74 = .ok (.iload_n 3, 1) := by decide +kernel
theorem dX10_choose_75 : decode cX10_choose 75 = .ok (.ireturn, 1) := by decide +kernel
set_option maxRecDepth 20000 in
theorem ggX10_digitAt_X10_noSystem : GoodIn wsX10_digitAt wsX10_noSystem := goodIn_r _ [7, 8, 9, 6, 10] (by decide +kernel) (by decide +kernel)
set_option maxRecDepth 20000 in
theorem gX10_digitAt_X10_noSystem : GoodIn wsX10_digitAt (va_wsS RX10 70 yX10_noSystem wsX10_noSystem) := goodIn_app (goodIn_of _ (by decide +kernel)) ggX10_digitAt_X10_noSystem
set_option maxRecDepth 20000 in
theorem ggX10_digitAt_X10_in : GoodIn wsX10_digitAt wsX10_in := goodIn_r _ [10] (by decide +kernel) (by decide +kernel)
set_option maxRecDepth 20000 in
theorem gX10_digitAt_X10_in : GoodIn wsX10_digitAt (va_wsS RX10 62 yX10_in wsX10_in) := goodIn_app (goodIn_of _ (by decide +kernel)) ggX10_digitAt_X10_in
theorem dX10_digitAt_0 : decode cX10_digitAt 0 = .ok (.iload_n 1, 1) := by decide +kernel
theorem dX10_digitAt_1 : decode cX10_digitAt 1 = .ok (.invokestatic 70, 3) := by decide +kernel
theorem dX10_digitAt_4 : decode cX10_digitAt 4 = .ok (.ifCond .ne 19, 3) := by decide +kernel
theorem dX10_digitAt_7 : decode cX10_digitAt 7 = .ok (.iload_n 2, 1) := by decide +kernel
theorem dX10_digitAt_8 : decode cX10_digitAt 8 = .ok (.iconst 0, 1) := by decide +kernel
theorem dX10_digitAt_9 : decode cX10_digitAt 9 = .ok (.aload_n 0, 1) := by decide +kernel
theorem dX10_digitAt_10 : decode cX10_digitAt 10 = .ok (.getfield 16, 3) := by decide +kernel
theorem dX10_digitAt_13 : decode cX10_digitAt 13 = .ok (.iload_n 1, 1) := by decide +kernel
theorem dX10_digitAt_14 : decode cX10_digitAt 14 = .ok (.iaload, 1) := by decide +kernel
theorem dX10_digitAt_15 : decode cX10_digitAt 15 = .ok (.iconst 1, 1) := by decide +kernel
theorem dX10_digitAt_16 : decode cX10_digitAt 16 = .ok (.isub, 1) := by decide +kernel
theorem dX10_digitAt_17 : decode cX10_digitAt 17 = .ok (.invokestatic 62, 3) := by decide +kernel
theorem dX10_digitAt_20 : decode cX10_digitAt 20 = .ok (.ifCond .ne 8, 3) := by decide +kernel
theorem dX10_digitAt_23 : decode cX10_digitAt 23 = .ok (.ldc 74, 2) := by decide +kernel
theorem dX10_digitAt_25 : decode cX10_digitAt 25 = .ok (.goto 14, 3) := by decide +kernel
theorem dX10_digitAt_28 : decode cX10_digitAt 28 = .ok (.aload_n 0, 1) := by decide +kernel
theorem dX10_digitAt_29 : decode cX10_digitAt 29 = .ok (.getfield 19, 3) := by decide +kernel
theorem dX10_digitAt_32 : decode cX10_digitAt 32 = .ok (.bipush 12, 2) := by decide +kernel
theorem dX10_digitAt_34 : decode cX10_digitAt 34 = .ok (.iload_n 1, 1) := by decide +kernel
theorem dX10_digitAt_35 : decode cX10_digitAt 35 = .ok (.imul, 1) := by decide +kernel
theorem dX10_digitAt_36 : decode cX10_digitAt 36 = .ok (.iload_n 2, 1) := by decide +kernel
theorem dX10_digitAt_37 : decode cX10_digitAt 37 = .ok (.iadd, 1) := by decide +kernel
theorem dX10_digitAt_38 : decode cX10_digitAt 38 = .ok (.iaload, 1) := by decide +kernel
theorem dX10_digitAt_39 : decode cX10_digitAt 39 = .ok (.ireturn, 1) := by decide +kernel
set_option maxRecDepth 20000 in
theorem ggX10_residue_X10_absolute : GoodIn wsX10_residue wsX10_absolute := goodIn_r _ [5] (by decide +kernel) (by decide +kernel)
set_option maxRecDepth 20000 in
theorem gX10_residue_X10_absolute : GoodIn wsX10_residue (va_wsS RX10 66 yX10_absolute wsX10_absolute) := goodIn_app (goodIn_of _ (by decide +kernel)) ggX10_residue_X10_absolute
theorem dX10_residue_0 : decode cX10_residue 0 = .ok (.iload_n 2, 1) := by decide +kernel
theorem dX10_residue_1 : decode cX10_residue 1 = .ok (.aload_n 0, 1) := by decide +kernel
theorem dX10_residue_2 : decode cX10_residue 2 = .ok (.getfield 7, 3) := by decide +kernel
theorem dX10_residue_5 : decode cX10_residue 5 = .ok (.iload_n 1, 1) := by decide +kernel
theorem dX10_residue_6 : decode cX10_residue 6 = .ok (.iaload, 1) := by decide +kernel
theorem dX10_residue_7 : decode cX10_residue 7 = .ok (.irem, 1) := by decide +kernel
theorem dX10_residue_8 : decode cX10_residue 8 = .ok (.istore_n 3, 1) := by decide +kernel
theorem dX10_residue_9 : decode cX10_residue 9 = .ok (.iload_n 3, 1) := by decide +kernel
theorem dX10_residue_10 : decode cX10_residue 10 = .ok (.ifCond .ge 17, 3) := by decide +kernel
theorem dX10_residue_13 : decode cX10_residue 13 = .ok (.iload_n 3, 1) := by decide +kernel
theorem dX10_residue_14 : decode cX10_residue 14 = .ok (.aload_n 0, 1) := by decide +kernel
theorem dX10_residue_15 : decode cX10_residue 15 = .ok (.getfield 7, 3) := by decide +kernel
theorem dX10_residue_18 : decode cX10_residue 18 = .ok (.iload_n 1, 1) := by decide +kernel
theorem dX10_residue_19 : decode cX10_residue 19 = .ok (.iaload, 1) := by decide +kernel
theorem dX10_residue_20 : decode cX10_residue 20 = .ok (.invokestatic 66, 3) := by decide +kernel
theorem dX10_residue_23 : decode cX10_residue 23 = .ok (.iadd, 1) := by decide +kernel
theorem dX10_residue_24 : decode cX10_residue 24 = .ok (.goto 4, 3) := by decide +kernel
theorem dX10_residue_27 : decode cX10_residue 27 = .ok (.iload_n 3, 1) := by decide +kernel
theorem dX10_residue_28 : decode cX10_residue 28 = .ok (.ireturn, 1) := by decide +kernel
set_option maxRecDepth 20000 in
theorem ggX10_chosenAt_X10_residue : GoodIn wsX10_chosenAt wsX10_residue := goodIn_r _ [7, 8, 9, 10, 6, 11, 12, 13, 14, 15, 16, 17, 18, 19, 20, 21, 22, 23, 24, 25, 26, 27, 28, 29, 30, 31, 32] (by decide +kernel) (by decide +kernel)
set_option maxRecDepth 20000 in
theorem gX10_chosenAt_X10_residue : GoodIn wsX10_chosenAt (wsV RX10 86 RX10 yX10_residue wsX10_residue) := goodIn_app (goodIn_of _ (by decide +kernel)) ggX10_chosenAt_X10_residue
theorem dX10_chosenAt_0 : decode cX10_chosenAt 0 = .ok (.iconst 0, 1) := by decide +kernel
theorem dX10_chosenAt_1 : decode cX10_chosenAt 1 = .ok (.istore_n 3, 1) := by decide +kernel
theorem dX10_chosenAt_2 : decode cX10_chosenAt 2 = .ok (.iload_n 3, 1) := by decide +kernel
theorem dX10_chosenAt_3 : decode cX10_chosenAt 3 = .ok (.aload_n 0, 1) := by decide +kernel
theorem dX10_chosenAt_4 : decode cX10_chosenAt 4 = .ok (.getfield 16, 3) := by decide +kernel
theorem dX10_chosenAt_7 : decode cX10_chosenAt 7 = .ok (.iload_n 1, 1) := by decide +kernel
theorem dX10_chosenAt_8 : decode cX10_chosenAt 8 = .ok (.iaload, 1) := by decide +kernel
theorem dX10_chosenAt_9 : decode cX10_chosenAt 9 = .ok (.if_icmp .ge 31, 3) := by decide +kernel
theorem dX10_chosenAt_12 : decode cX10_chosenAt 12 = .ok (.aload_n 0, 1) := by decide +kernel
theorem dX10_chosenAt_13 : decode cX10_chosenAt 13 = .ok (.iload_n 1, 1) := by decide +kernel
theorem dX10_chosenAt_14 : decode cX10_chosenAt 14 = .ok (.aload_n 0, 1) := by decide +kernel
theorem dX10_chosenAt_15 : decode cX10_chosenAt 15 = .ok (.getfield 19, 3) := by decide +kernel
theorem dX10_chosenAt_18 : decode cX10_chosenAt 18 = .ok (.bipush 12, 2) := by decide +kernel
theorem dX10_chosenAt_20 : decode cX10_chosenAt 20 = .ok (.iload_n 1, 1) := by decide +kernel
theorem dX10_chosenAt_21 : decode cX10_chosenAt 21 = .ok (.imul, 1) := by decide +kernel
theorem dX10_chosenAt_22 : decode cX10_chosenAt 22 = .ok (.iload_n 3, 1) := by decide +kernel
theorem dX10_chosenAt_23 : decode cX10_chosenAt 23 = .ok (.iadd, 1) := by decide +kernel
theorem dX10_chosenAt_24 : decode cX10_chosenAt 24 = .ok (.iaload, 1) := by decide +kernel
theorem dX10_chosenAt_25 : decode cX10_chosenAt 25 = .ok (.invokevirtual 86, 3) := by decide +kernel
theorem dX10_chosenAt_28 : decode cX10_chosenAt 28 = .ok (.iload_n 2, 1) := by decide +kernel
theorem dX10_chosenAt_29 : decode cX10_chosenAt 29 = .ok (.if_icmp .ne 5, 3) := by decide +kernel
theorem dX10_chosenAt_32 : decode cX10_chosenAt 32 = .ok (.iload_n 3, 1) := by decide +kernel
theorem dX10_chosenAt_33 : decode cX10_chosenAt 33 = .ok (.ireturn, 1) := by decide +kernel
theorem dX10_chosenAt_34 : decode cX10_chosenAt 34 = .ok (.iinc 3 1, 3) := by decide +kernel
theorem dX10_chosenAt_37 : decode cX10_chosenAt 37 = .ok (.goto (-35), 3) := by decide +kernel
theorem dX10_chosenAt_40 : decode cX10_chosenAt 40 = .ok (.iconst (-1), 1) := by decide +kernel
theorem dX10_chosenAt_41 : decode cX10_chosenAt 41 = .ok (.ireturn, 1) := by decide +kernel
set_option maxRecDepth 20000 in
theorem ggX10_chosenDigit_X10_chosenAt : GoodIn wsX10_chosenDigit wsX10_chosenAt := goodIn_r _ [6, 7, 1, 8, 9, 10, 5, 11, 12, 13, 14, 15, 16, 17, 18, 19, 20, 21, 22, 23, 24, 25, 26, 27, 28, 29, 30, 31, 32, 33, 34, 35, 36] (by decide +kernel) (by decide +kernel)
set_option maxRecDepth 20000 in
theorem gX10_chosenDigit_X10_chosenAt : GoodIn wsX10_chosenDigit (wsV RX10 89 RX10 yX10_chosenAt wsX10_chosenAt) := goodIn_app (goodIn_of _ (by decide +kernel)) ggX10_chosenDigit_X10_chosenAt
theorem dX10_chosenDigit_0 : decode cX10_chosenDigit 0 = .ok (.aload_n 0, 1) := by decide +kernel
theorem dX10_chosenDigit_1 : decode cX10_chosenDigit 1 = .ok (.getfield 19, 3) := by decide +kernel
theorem dX10_chosenDigit_4 : decode cX10_chosenDigit 4 = .ok (.bipush 12, 2) := by decide +kernel
theorem dX10_chosenDigit_6 : decode cX10_chosenDigit 6 = .ok (.iload_n 1, 1) := by decide +kernel
theorem dX10_chosenDigit_7 : decode cX10_chosenDigit 7 = .ok (.imul, 1) := by decide +kernel
theorem dX10_chosenDigit_8 : decode cX10_chosenDigit 8 = .ok (.aload_n 0, 1) := by decide +kernel
theorem dX10_chosenDigit_9 : decode cX10_chosenDigit 9 = .ok (.iload_n 1, 1) := by decide +kernel
theorem dX10_chosenDigit_10 : decode cX10_chosenDigit 10 = .ok (.iload_n 2, 1) := by decide +kernel
theorem dX10_chosenDigit_11 : decode cX10_chosenDigit 11 = .ok (.invokevirtual 89, 3) := by decide +kernel
theorem dX10_chosenDigit_14 : decode cX10_chosenDigit 14 = .ok (.iadd, 1) := by decide +kernel
theorem dX10_chosenDigit_15 : decode cX10_chosenDigit 15 = .ok (.iaload, 1) := by decide +kernel
theorem dX10_chosenDigit_16 : decode cX10_chosenDigit 16 = .ok (.ireturn, 1) := by decide +kernel
set_option maxRecDepth 20000 in
theorem ggX10_isComplete_X10_absolute : GoodIn wsX10_isComplete wsX10_absolute := goodIn_r _ [5] (by decide +kernel) (by decide +kernel)
set_option maxRecDepth 20000 in
theorem gX10_isComplete_X10_absolute : GoodIn wsX10_isComplete (va_wsS RX10 66 yX10_absolute wsX10_absolute) := goodIn_app (goodIn_of _ (by decide +kernel)) ggX10_isComplete_X10_absolute
set_option maxRecDepth 20000 in
theorem ggX10_isComplete_X10_chosenAt : GoodIn wsX10_isComplete wsX10_chosenAt := goodIn_r _ [9, 10, 11, 12, 13, 14, 4, 15, 1, 2, 3, 5, 16, 17, 18, 19, 20, 21, 22, 23, 24, 25, 26, 27, 28, 29, 30, 31, 32, 33, 34, 35, 36] (by decide +kernel) (by decide +kernel)
set_option maxRecDepth 20000 in
theorem gX10_isComplete_X10_chosenAt : GoodIn wsX10_isComplete (wsV RX10 89 RX10 yX10_chosenAt wsX10_chosenAt) := goodIn_app (goodIn_of _ (by decide +kernel)) ggX10_isComplete_X10_chosenAt
theorem dX10_isComplete_0 : decode cX10_isComplete 0 = .ok (.iconst 1, 1) := by decide +kernel
theorem dX10_isComplete_1 : decode cX10_isComplete 1 = .ok (.istore_n 2, 1) := by decide +kernel
theorem dX10_isComplete_2 : decode cX10_isComplete 2 = .ok (.iconst 0, 1) := by decide +kernel
theorem dX10_isComplete_3 : decode cX10_isComplete 3 = .ok (.istore_n 3, 1) := by decide +kernel
theorem dX10_isComplete_4 : decode cX10_isComplete 4 = .ok (.iload_n 3, 1) := by decide +kernel
theorem dX10_isComplete_5 : decode cX10_isComplete 5 = .ok (.aload_n 0, 1) := by decide +kernel
theorem dX10_isComplete_6 : decode cX10_isComplete 6 = .ok (.getfield 7, 3) := by decide +kernel
theorem dX10_isComplete_9 : decode cX10_isComplete 9 = .ok (.iload_n 1, 1) := by decide +kernel
theorem dX10_isComplete_10 : decode cX10_isComplete 10 = .ok (.iaload, 1) := by decide +kernel
theorem dX10_isComplete_11 : decode cX10_isComplete 11 = .ok (.invokestatic 66, 3) := by decide +kernel
theorem dX10_isComplete_14 : decode cX10_isComplete 14 = .ok (.if_icmp .ge 28, 3) := by decide +kernel
theorem dX10_isComplete_17 : decode cX10_isComplete 17 = .ok (.iload_n 2, 1) := by decide +kernel
theorem dX10_isComplete_18 : decode cX10_isComplete 18 = .ok (.ifCond .eq 16, 3) := by decide +kernel
theorem dX10_isComplete_21 : decode cX10_isComplete 21 = .ok (.aload_n 0, 1) := by decide +kernel
theorem dX10_isComplete_22 : decode cX10_isComplete 22 = .ok (.iload_n 1, 1) := by decide +kernel
theorem dX10_isComplete_23 : decode cX10_isComplete 23 = .ok (.iload_n 3, 1) := by decide +kernel
theorem dX10_isComplete_24 : decode cX10_isComplete 24 = .ok (.invokevirtual 89, 3) := by decide +kernel
theorem dX10_isComplete_27 : decode cX10_isComplete 27 = .ok (.ifCond .lt 7, 3) := by decide +kernel
theorem dX10_isComplete_30 : decode cX10_isComplete 30 = .ok (.iconst 1, 1) := by decide +kernel
theorem dX10_isComplete_31 : decode cX10_isComplete 31 = .ok (.goto 4, 3) := by decide +kernel
theorem dX10_isComplete_34 : decode cX10_isComplete 34 = .ok (.iconst 0, 1) := by decide +kernel
theorem dX10_isComplete_35 : decode cX10_isComplete 35 = .ok (.istore_n 2, 1) := by decide +kernel
theorem dX10_isComplete_36 : decode cX10_isComplete 36 = .ok (.iinc 3 1, 3) := by decide +kernel
theorem dX10_isComplete_39 : decode cX10_isComplete 39 = .ok (.goto (-35), 3) := by decide +kernel
theorem dX10_isComplete_42 : decode cX10_isComplete 42 = .ok (.iload_n 2, 1) := by decide +kernel
theorem dX10_isComplete_43 : decode cX10_isComplete 43 = .ok (.ireturn, 1) := by decide +kernel
set_option maxRecDepth 20000 in
theorem ggX10_chosen_X10_noSystem : GoodIn wsX10_chosen wsX10_noSystem := goodIn_r _ [8, 9, 10, 7, 11] (by decide +kernel) (by decide +kernel)
set_option maxRecDepth 20000 in
theorem gX10_chosen_X10_noSystem : GoodIn wsX10_chosen (va_wsS RX10 70 yX10_noSystem wsX10_noSystem) := goodIn_app (goodIn_of _ (by decide +kernel)) ggX10_chosen_X10_noSystem
set_option maxRecDepth 20000 in
theorem ggX10_chosen_X10_absolute : GoodIn wsX10_chosen wsX10_absolute := goodIn_r _ [14] (by decide +kernel) (by decide +kernel)
set_option maxRecDepth 20000 in
theorem gX10_chosen_X10_absolute : GoodIn wsX10_chosen (va_wsS RX10 66 yX10_absolute wsX10_absolute) := goodIn_app (goodIn_of _ (by decide +kernel)) ggX10_chosen_X10_absolute
set_option maxRecDepth 20000 in
theorem ggX10_chosen_X10_in : GoodIn wsX10_chosen wsX10_in := goodIn_r _ [11] (by decide +kernel) (by decide +kernel)
set_option maxRecDepth 20000 in
theorem gX10_chosen_X10_in : GoodIn wsX10_chosen (va_wsS RX10 62 yX10_in wsX10_in) := goodIn_app (goodIn_of _ (by decide +kernel)) ggX10_chosen_X10_in
set_option maxRecDepth 20000 in
theorem ggX10_chosen_X10_chosenAt : GoodIn wsX10_chosen wsX10_chosenAt := goodIn_r _ [18, 19, 20, 21, 22, 23, 7, 24, 2, 12, 13, 14, 29, 30, 31, 32, 33, 34, 35, 36, 37, 38, 39, 40, 41, 42, 43, 44, 45, 46, 47, 48, 49] (by decide +kernel) (by decide +kernel)
set_option maxRecDepth 20000 in
theorem gX10_chosen_X10_chosenAt : GoodIn wsX10_chosen (wsV RX10 89 RX10 yX10_chosenAt wsX10_chosenAt) := goodIn_app (goodIn_of _ (by decide +kernel)) ggX10_chosen_X10_chosenAt
set_option maxRecDepth 20000 in
theorem ggX10_chosen_X10_chosenDigit : GoodIn wsX10_chosen wsX10_chosenDigit := goodIn_r _ [28, 20, 15, 16, 17, 7, 18, 19, 21, 22, 23, 24, 2, 12, 13, 14, 29, 30, 31, 32, 33, 34, 35, 36, 37, 38, 39, 40, 41, 42, 43, 44, 45, 46, 47, 48, 49] (by decide +kernel) (by decide +kernel)
set_option maxRecDepth 20000 in
theorem gX10_chosen_X10_chosenDigit : GoodIn wsX10_chosen (wsV RX10 93 RX10 yX10_chosenDigit wsX10_chosenDigit) := goodIn_app (goodIn_of _ (by decide +kernel)) ggX10_chosen_X10_chosenDigit
theorem dX10_chosen_0 : decode cX10_chosen 0 = .ok (.iload_n 1, 1) := by decide +kernel
theorem dX10_chosen_1 : decode cX10_chosen 1 = .ok (.invokestatic 70, 3) := by decide +kernel
theorem dX10_chosen_4 : decode cX10_chosen 4 = .ok (.ifCond .eq 6, 3) := by decide +kernel
theorem dX10_chosen_7 : decode cX10_chosen 7 = .ok (.ldc 74, 2) := by decide +kernel
theorem dX10_chosen_9 : decode cX10_chosen 9 = .ok (.ireturn, 1) := by decide +kernel
theorem dX10_chosen_10 : decode cX10_chosen 10 = .ok (.iload_n 2, 1) := by decide +kernel
theorem dX10_chosen_11 : decode cX10_chosen 11 = .ok (.iconst 0, 1) := by decide +kernel
theorem dX10_chosen_12 : decode cX10_chosen 12 = .ok (.aload_n 0, 1) := by decide +kernel
theorem dX10_chosen_13 : decode cX10_chosen 13 = .ok (.getfield 7, 3) := by decide +kernel
theorem dX10_chosen_16 : decode cX10_chosen 16 = .ok (.iload_n 1, 1) := by decide +kernel
theorem dX10_chosen_17 : decode cX10_chosen 17 = .ok (.iaload, 1) := by decide +kernel
theorem dX10_chosen_18 : decode cX10_chosen 18 = .ok (.invokestatic 66, 3) := by decide +kernel
theorem dX10_chosen_21 : decode cX10_chosen 21 = .ok (.iconst 1, 1) := by decide +kernel
theorem dX10_chosen_22 : decode cX10_chosen 22 = .ok (.isub, 1) := by decide +kernel
theorem dX10_chosen_23 : decode cX10_chosen 23 = .ok (.invokestatic 62, 3) := by decide +kernel
theorem dX10_chosen_26 : decode cX10_chosen 26 = .ok (.ifCond .ne 6, 3) := by decide +kernel
theorem dX10_chosen_29 : decode cX10_chosen 29 = .ok (.ldc 79, 2) := by decide +kernel
theorem dX10_chosen_31 : decode cX10_chosen 31 = .ok (.ireturn, 1) := by decide +kernel
theorem dX10_chosen_32 : decode cX10_chosen 32 = .ok (.aload_n 0, 1) := by decide +kernel
theorem dX10_chosen_33 : decode cX10_chosen 33 = .ok (.iload_n 1, 1) := by decide +kernel
theorem dX10_chosen_34 : decode cX10_chosen 34 = .ok (.iload_n 2, 1) := by decide +kernel
theorem dX10_chosen_35 : decode cX10_chosen 35 = .ok (.invokevirtual 89, 3) := by decide +kernel
theorem dX10_chosen_38 : decode cX10_chosen 38 = .ok (.ifCond .ge 8, 3) := by decide +kernel
theorem dX10_chosen_41 : decode cX10_chosen 41 = .ok (.ldc 92, 2) := by decide +kernel
theorem dX10_chosen_43 : decode cX10_chosen 43 = .ok (.goto 9, 3) := by decide +kernel
theorem dX10_chosen_46 : decode cX10_chosen 46 = .ok (.aload_n 0, 1) := by decide +kernel
theorem dX10_chosen_47 : decode cX10_chosen 47 = .ok (.iload_n 1, 1) := by decide +kernel
theorem dX10_chosen_48 : decode cX10_chosen 48 = .ok (.iload_n 2, 1) := by decide +kernel
theorem dX10_chosen_49 : decode cX10_chosen 49 = .ok (.invokevirtual 93, 3) := by decide +kernel
theorem dX10_chosen_52 : decode cX10_chosen 52 = .ok (.ireturn, 1) := by decide +kernel
set_option maxRecDepth 20000 in
theorem ggX10_system_X10_noSystem : GoodIn wsX10_system wsX10_noSystem := goodIn_r _ [10, 11, 12, 9, 13] (by decide +kernel) (by decide +kernel)
set_option maxRecDepth 20000 in
theorem gX10_system_X10_noSystem : GoodIn wsX10_system (va_wsS RX10 70 yX10_noSystem wsX10_noSystem) := goodIn_app (goodIn_of _ (by decide +kernel)) ggX10_system_X10_noSystem
set_option maxRecDepth 20000 in
theorem ggX10_system_X10_absolute : GoodIn wsX10_system wsX10_absolute := goodIn_r _ [16] (by decide +kernel) (by decide +kernel)
set_option maxRecDepth 20000 in
theorem gX10_system_X10_absolute : GoodIn wsX10_system (va_wsS RX10 66 yX10_absolute wsX10_absolute) := goodIn_app (goodIn_of _ (by decide +kernel)) ggX10_system_X10_absolute
set_option maxRecDepth 20000 in
theorem ggX10_system_X10_isComplete : GoodIn wsX10_system wsX10_isComplete := goodIn_r _ [20, 4, 14, 15, 9, 16, 21, 22, 23, 24, 2, 3, 25, 26, 27, 28, 29, 30, 31, 32, 33, 34, 35, 36, 37, 38, 39, 40, 41, 42, 43, 44, 45, 46, 47, 48, 49] (by decide +kernel) (by decide +kernel)
set_option maxRecDepth 20000 in
theorem gX10_system_X10_isComplete : GoodIn wsX10_system (wsV RX10 96 RX10 yX10_isComplete wsX10_isComplete) := goodIn_app (goodIn_of _ (by decide +kernel)) ggX10_system_X10_isComplete
theorem dX10_system_0 : decode cX10_system 0 = .ok (.iload_n 1, 1) := by decide +kernel
theorem dX10_system_1 : decode cX10_system 1 = .ok (.invokestatic 70, 3) := by decide +kernel
theorem dX10_system_4 : decode cX10_system 4 = .ok (.ifCond .eq 6, 3) := by decide +kernel
theorem dX10_system_7 : decode cX10_system 7 = .ok (.ldc 74, 2) := by decide +kernel
theorem dX10_system_9 : decode cX10_system 9 = .ok (.ireturn, 1) := by decide +kernel
theorem dX10_system_10 : decode cX10_system 10 = .ok (.iconst 0, 1) := by decide +kernel
theorem dX10_system_11 : decode cX10_system 11 = .ok (.istore_n 3, 1) := by decide +kernel
theorem dX10_system_12 : decode cX10_system 12 = .ok (.iconst 0, 1) := by decide +kernel
theorem dX10_system_13 : decode cX10_system 13 = .ok (.istore 4, 2) := by decide +kernel
theorem dX10_system_15 : decode cX10_system 15 = .ok (.iload 4, 2) := by decide +kernel
theorem dX10_system_17 : decode cX10_system 17 = .ok (.aload_n 0, 1) := by decide +kernel
theorem dX10_system_18 : decode cX10_system 18 = .ok (.getfield 16, 3) := by decide +kernel
theorem dX10_system_21 : decode cX10_system 21 = .ok (.iload_n 1, 1) := by decide +kernel
theorem dX10_system_22 : decode cX10_system 22 = .ok (.iaload, 1) := by decide +kernel
theorem dX10_system_23 : decode cX10_system 23 = .ok (.if_icmp .ge 48, 3) := by decide +kernel
theorem dX10_system_26 : decode cX10_system 26 = .ok (.aload_n 0, 1) := by decide +kernel
theorem dX10_system_27 : decode cX10_system 27 = .ok (.getfield 19, 3) := by decide +kernel
theorem dX10_system_30 : decode cX10_system 30 = .ok (.bipush 12, 2) := by decide +kernel
theorem dX10_system_32 : decode cX10_system 32 = .ok (.iload_n 1, 1) := by decide +kernel
theorem dX10_system_33 : decode cX10_system 33 = .ok (.imul, 1) := by decide +kernel
theorem dX10_system_34 : decode cX10_system 34 = .ok (.iload 4, 2) := by decide +kernel
theorem dX10_system_36 : decode cX10_system 36 = .ok (.iadd, 1) := by decide +kernel
theorem dX10_system_37 : decode cX10_system 37 = .ok (.iaload, 1) := by decide +kernel
theorem dX10_system_38 : decode cX10_system 38 = .ok (.invokestatic 66, 3) := by decide +kernel
theorem dX10_system_41 : decode cX10_system 41 = .ok (.iload_n 3, 1) := by decide +kernel
theorem dX10_system_42 : decode cX10_system 42 = .ok (.if_icmp .le 21, 3) := by decide +kernel
theorem dX10_system_45 : decode cX10_system 45 = .ok (.aload_n 0, 1) := by decide +kernel
theorem dX10_system_46 : decode cX10_system 46 = .ok (.getfield 19, 3) := by decide +kernel
theorem dX10_system_49 : decode cX10_system 49 = .ok (.bipush 12, 2) := by decide +kernel
theorem dX10_system_51 : decode cX10_system 51 = .ok (.iload_n 1, 1) := by decide +kernel
theorem dX10_system_52 : decode cX10_system 52 = .ok (.imul, 1) := by decide +kernel
theorem dX10_system_53 : decode cX10_system 53 = .ok (.iload 4, 2) := by decide +kernel
theorem dX10_system_55 : decode cX10_system 55 = .ok (.iadd, 1) := by decide +kernel
theorem dX10_system_56 : decode cX10_system 56 = .ok (.iaload, 1) := by decide +kernel
theorem dX10_system_57 : decode cX10_system 57 = .ok (.invokestatic 66, 3) := by decide +kernel
theorem dX10_system_60 : decode cX10_system 60 = .ok (.goto 4, 3) := by decide +kernel
theorem dX10_system_63 : decode cX10_system 63 = .ok (.iload_n 3, 1) := by decide +kernel
theorem dX10_system_64 : decode cX10_system 64 = .ok (.istore_n 3, 1) := by decide +kernel
theorem dX10_system_65 : decode cX10_system 65 = .ok (.iinc 4 1, 3) := by decide +kernel
theorem dX10_system_68 : decode cX10_system 68 = .ok (.goto (-53), 3) := by decide +kernel
theorem dX10_system_71 : decode cX10_system 71 = .ok (.iload_n 2, 1) := by decide +kernel
theorem dX10_system_72 : decode cX10_system 72 = .ok (.tableswitch 73 0 4 #[36, 43, 50, 57, 71], 36) := by decide +kernel
theorem dX10_system_108 : decode cX10_system 108 = .ok (.aload_n 0, 1) := by decide +kernel
theorem dX10_system_109 : decode cX10_system 109 = .ok (.getfield 7, 3) := by decide +kernel
theorem dX10_system_112 : decode cX10_system 112 = .ok (.iload_n 1, 1) := by decide +kernel
theorem dX10_system_113 : decode cX10_system 113 = .ok (.iaload, 1) := by decide +kernel
theorem dX10_system_114 : decode cX10_system 114 = .ok (.ireturn, 1) := by decide +kernel
theorem dX10_system_115 : decode cX10_system 115 = .ok (.aload_n 0, 1) := by decide +kernel
theorem dX10_system_116 : decode cX10_system 116 = .ok (.getfield 13, 3) := by decide +kernel
theorem dX10_system_119 : decode cX10_system 119 = .ok (.iload_n 1, 1) := by decide +kernel
theorem dX10_system_120 : decode cX10_system 120 = .ok (.iaload, 1) := by decide +kernel
theorem dX10_system_121 : decode cX10_system 121 = .ok (.ireturn, 1) := by decide +kernel
theorem dX10_system_122 : decode cX10_system 122 = .ok (.aload_n 0, 1) := by decide +kernel
theorem dX10_system_123 : decode cX10_system 123 = .ok (.getfield 16, 3) := by decide +kernel
theorem dX10_system_126 : decode cX10_system 126 = .ok (.iload_n 1, 1) := by decide +kernel
theorem dX10_system_127 : decode cX10_system 127 = .ok (.iaload, 1) := by decide +kernel
theorem dX10_system_128 : decode cX10_system 128 = .ok (.ireturn, 1) := by decide +kernel
theorem dX10_system_129 : decode cX10_system 129 = .ok (.aload_n 0, 1) := by decide +kernel
theorem dX10_system_130 : decode cX10_system 130 = .ok (.iload_n 1, 1) := by decide +kernel
theorem dX10_system_131 : decode cX10_system 131 = .ok (.invokevirtual 96, 3) := by decide +kernel
theorem dX10_system_134 : decode cX10_system 134 = .ok (.ifCond .eq 7, 3) := by decide +kernel
theorem dX10_system_137 : decode cX10_system 137 = .ok (.iconst 1, 1) := by decide +kernel
theorem dX10_system_138 : decode cX10_system 138 = .ok (.goto 4, 3) := by decide +kernel
theorem dX10_system_141 : decode cX10_system 141 = .ok (.iconst 0, 1) := by decide +kernel
theorem dX10_system_142 : decode cX10_system 142 = .ok (.ireturn, 1) := by decide +kernel
theorem dX10_system_143 : decode cX10_system 143 = .ok (.iload_n 3, 1) := by decide +kernel
theorem dX10_system_144 : decode cX10_system 144 = .ok (.ireturn, 1) := by decide +kernel
theorem dX10_system_145 : decode cX10_system 145 = .ok (.ldc 79, 2) := by decide +kernel
theorem dX10_system_147 : decode cX10_system 147 = .ok (.ireturn, 1) := by decide +kernel
set_option maxRecDepth 20000 in
theorem ggX10_stepDigit_X10_absolute : GoodIn wsX10_stepDigit wsX10_absolute := goodIn_r _ [8] (by decide +kernel) (by decide +kernel)
set_option maxRecDepth 20000 in
theorem gX10_stepDigit_X10_absolute : GoodIn wsX10_stepDigit (va_wsS RX10 66 yX10_absolute wsX10_absolute) := goodIn_app (goodIn_of _ (by decide +kernel)) ggX10_stepDigit_X10_absolute
theorem dX10_stepDigit_0 : decode cX10_stepDigit 0 = .ok (.aload_n 0, 1) := by decide +kernel
theorem dX10_stepDigit_1 : decode cX10_stepDigit 1 = .ok (.getfield 7, 3) := by decide +kernel
theorem dX10_stepDigit_4 : decode cX10_stepDigit 4 = .ok (.iload_n 1, 1) := by decide +kernel
theorem dX10_stepDigit_5 : decode cX10_stepDigit 5 = .ok (.iaload, 1) := by decide +kernel
theorem dX10_stepDigit_6 : decode cX10_stepDigit 6 = .ok (.invokestatic 66, 3) := by decide +kernel
theorem dX10_stepDigit_9 : decode cX10_stepDigit 9 = .ok (.istore 4, 2) := by decide +kernel
theorem dX10_stepDigit_11 : decode cX10_stepDigit 11 = .ok (.iconst 0, 1) := by decide +kernel
theorem dX10_stepDigit_12 : decode cX10_stepDigit 12 = .ok (.istore 5, 2) := by decide +kernel
theorem dX10_stepDigit_14 : decode cX10_stepDigit 14 = .ok (.iload 5, 2) := by decide +kernel
theorem dX10_stepDigit_16 : decode cX10_stepDigit 16 = .ok (.aload_n 0, 1) := by decide +kernel
theorem dX10_stepDigit_17 : decode cX10_stepDigit 17 = .ok (.getfield 16, 3) := by decide +kernel
theorem dX10_stepDigit_20 : decode cX10_stepDigit 20 = .ok (.iload_n 1, 1) := by decide +kernel
theorem dX10_stepDigit_21 : decode cX10_stepDigit 21 = .ok (.iaload, 1) := by decide +kernel
theorem dX10_stepDigit_22 : decode cX10_stepDigit 22 = .ok (.if_icmp .ge 51, 3) := by decide +kernel
theorem dX10_stepDigit_25 : decode cX10_stepDigit 25 = .ok (.aload_n 0, 1) := by decide +kernel
theorem dX10_stepDigit_26 : decode cX10_stepDigit 26 = .ok (.getfield 13, 3) := by decide +kernel
theorem dX10_stepDigit_29 : decode cX10_stepDigit 29 = .ok (.iload_n 1, 1) := by decide +kernel
theorem dX10_stepDigit_30 : decode cX10_stepDigit 30 = .ok (.iaload, 1) := by decide +kernel
theorem dX10_stepDigit_31 : decode cX10_stepDigit 31 = .ok (.iload_n 2, 1) := by decide +kernel
theorem dX10_stepDigit_32 : decode cX10_stepDigit 32 = .ok (.imul, 1) := by decide +kernel
theorem dX10_stepDigit_33 : decode cX10_stepDigit 33 = .ok (.aload_n 0, 1) := by decide +kernel
theorem dX10_stepDigit_34 : decode cX10_stepDigit 34 = .ok (.getfield 19, 3) := by decide +kernel
theorem dX10_stepDigit_37 : decode cX10_stepDigit 37 = .ok (.bipush 12, 2) := by decide +kernel
theorem dX10_stepDigit_39 : decode cX10_stepDigit 39 = .ok (.iload_n 1, 1) := by decide +kernel
theorem dX10_stepDigit_40 : decode cX10_stepDigit 40 = .ok (.imul, 1) := by decide +kernel
theorem dX10_stepDigit_41 : decode cX10_stepDigit 41 = .ok (.iload 5, 2) := by decide +kernel
theorem dX10_stepDigit_43 : decode cX10_stepDigit 43 = .ok (.iadd, 1) := by decide +kernel
theorem dX10_stepDigit_44 : decode cX10_stepDigit 44 = .ok (.iaload, 1) := by decide +kernel
theorem dX10_stepDigit_45 : decode cX10_stepDigit 45 = .ok (.iload_n 3, 1) := by decide +kernel
theorem dX10_stepDigit_46 : decode cX10_stepDigit 46 = .ok (.imul, 1) := by decide +kernel
theorem dX10_stepDigit_47 : decode cX10_stepDigit 47 = .ok (.isub, 1) := by decide +kernel
theorem dX10_stepDigit_48 : decode cX10_stepDigit 48 = .ok (.iload 4, 2) := by decide +kernel
theorem dX10_stepDigit_50 : decode cX10_stepDigit 50 = .ok (.irem, 1) := by decide +kernel
theorem dX10_stepDigit_51 : decode cX10_stepDigit 51 = .ok (.ifCond .ne 16, 3) := by decide +kernel
theorem dX10_stepDigit_54 : decode cX10_stepDigit 54 = .ok (.aload_n 0, 1) := by decide +kernel
theorem dX10_stepDigit_55 : decode cX10_stepDigit 55 = .ok (.getfield 19, 3) := by decide +kernel
theorem dX10_stepDigit_58 : decode cX10_stepDigit 58 = .ok (.bipush 12, 2) := by decide +kernel
theorem dX10_stepDigit_60 : decode cX10_stepDigit 60 = .ok (.iload_n 1, 1) := by decide +kernel
theorem dX10_stepDigit_61 : decode cX10_stepDigit 61 = .ok (.imul, 1) := by decide +kernel
theorem dX10_stepDigit_62 : decode cX10_stepDigit 62 = .ok (.iload 5, 2) := by decide +kernel
theorem dX10_stepDigit_64 : decode cX10_stepDigit 64 = .ok (.iadd, 1) := by decide +kernel
theorem dX10_stepDigit_65 : decode cX10_stepDigit 65 = .ok (.iaload, 1) := by decide +kernel
theorem dX10_stepDigit_66 : decode cX10_stepDigit 66 = .ok (.ireturn, 1) := by decide +kernel
theorem dX10_stepDigit_67 : decode cX10_stepDigit 67 = .ok (.iinc 5 1, 3) := by decide +kernel
theorem dX10_stepDigit_70 : decode cX10_stepDigit 70 = .ok (.goto (-56), 3) := by decide +kernel
theorem dX10_stepDigit_73 : decode cX10_stepDigit 73 = .ok (.iconst 0, 1) := by decide +kernel
theorem dX10_stepDigit_74 : decode cX10_stepDigit 74 = .ok (.ireturn, 1) := by decide +kernel
set_option maxRecDepth 20000 in
theorem ggX10_step_X10_stepDigit : GoodIn wsX10_step wsX10_stepDigit := goodIn_r _ [7, 2, 8, 1, 9, 10, 11, 6, 12, 13, 14, 15, 16, 17, 18, 19, 20, 21, 22, 23, 24, 25, 26, 27, 28, 29, 30, 31, 32, 33] (by decide +kernel) (by decide +kernel)
set_option maxRecDepth 20000 in
theorem gX10_step_X10_stepDigit : GoodIn wsX10_step (wsV RX10 99 RX10 yX10_stepDigit wsX10_stepDigit) := goodIn_app (goodIn_of _ (by decide +kernel)) ggX10_step_X10_stepDigit
theorem dX10_step_0 : decode cX10_step 0 = .ok (.aload_n 0, 1) := by decide +kernel
theorem dX10_step_1 : decode cX10_step 1 = .ok (.getfield 13, 3) := by decide +kernel
theorem dX10_step_4 : decode cX10_step 4 = .ok (.iload_n 1, 1) := by decide +kernel
theorem dX10_step_5 : decode cX10_step 5 = .ok (.iaload, 1) := by decide +kernel
theorem dX10_step_6 : decode cX10_step 6 = .ok (.iload_n 2, 1) := by decide +kernel
theorem dX10_step_7 : decode cX10_step 7 = .ok (.imul, 1) := by decide +kernel
theorem dX10_step_8 : decode cX10_step 8 = .ok (.aload_n 0, 1) := by decide +kernel
theorem dX10_step_9 : decode cX10_step 9 = .ok (.iload_n 1, 1) := by decide +kernel
theorem dX10_step_10 : decode cX10_step 10 = .ok (.iload_n 2, 1) := by decide +kernel
theorem dX10_step_11 : decode cX10_step 11 = .ok (.iload_n 3, 1) := by decide +kernel
theorem dX10_step_12 : decode cX10_step 12 = .ok (.invokevirtual 99, 3) := by decide +kernel
theorem dX10_step_15 : decode cX10_step 15 = .ok (.iload_n 3, 1) := by decide +kernel
theorem dX10_step_16 : decode cX10_step 16 = .ok (.imul, 1) := by decide +kernel
theorem dX10_step_17 : decode cX10_step 17 = .ok (.isub, 1) := by decide +kernel
theorem dX10_step_18 : decode cX10_step 18 = .ok (.aload_n 0, 1) := by decide +kernel
theorem dX10_step_19 : decode cX10_step 19 = .ok (.getfield 7, 3) := by decide +kernel
theorem dX10_step_22 : decode cX10_step 22 = .ok (.iload_n 1, 1) := by decide +kernel
theorem dX10_step_23 : decode cX10_step 23 = .ok (.iaload, 1) := by decide +kernel
theorem dX10_step_24 : decode cX10_step 24 = .ok (.idiv, 1) := by decide +kernel
theorem dX10_step_25 : decode cX10_step 25 = .ok (.ireturn, 1) := by decide +kernel
set_option maxRecDepth 20000 in
theorem ggX10_findPeriod_X10_step : GoodIn wsX10_findPeriod wsX10_step := goodIn_r _ [7, 8, 9, 10, 11, 12, 6, 13, 14, 15, 16, 17, 18, 19, 20, 21, 22, 23, 24, 25, 26, 27, 28, 29, 30, 31, 32, 33, 34, 35, 36, 37, 38, 39] (by decide +kernel) (by decide +kernel)
set_option maxRecDepth 20000 in
theorem gX10_findPeriod_X10_step : GoodIn wsX10_findPeriod (wsV RX10 103 RX10 yX10_step wsX10_step) := goodIn_app (goodIn_of _ (by decide +kernel)) ggX10_findPeriod_X10_step
theorem dX10_findPeriod_0 : decode cX10_findPeriod 0 = .ok (.aload_n 0, 1) := by decide +kernel
theorem dX10_findPeriod_1 : decode cX10_findPeriod 1 = .ok (.iload_n 1, 1) := by decide +kernel
theorem dX10_findPeriod_2 : decode cX10_findPeriod 2 = .ok (.iload_n 2, 1) := by decide +kernel
theorem dX10_findPeriod_3 : decode cX10_findPeriod 3 = .ok (.iload_n 3, 1) := by decide +kernel
theorem dX10_findPeriod_4 : decode cX10_findPeriod 4 = .ok (.invokevirtual 103, 3) := by decide +kernel
theorem dX10_findPeriod_7 : decode cX10_findPeriod 7 = .ok (.istore 4, 2) := by decide +kernel
theorem dX10_findPeriod_9 : decode cX10_findPeriod 9 = .ok (.aload_n 0, 1) := by decide +kernel
theorem dX10_findPeriod_10 : decode cX10_findPeriod 10 = .ok (.iload_n 1, 1) := by decide +kernel
theorem dX10_findPeriod_11 : decode cX10_findPeriod 11 = .ok (.iload 4, 2) := by decide +kernel
theorem dX10_findPeriod_13 : decode cX10_findPeriod 13 = .ok (.iload_n 3, 1) := by decide +kernel
theorem dX10_findPeriod_14 : decode cX10_findPeriod 14 = .ok (.invokevirtual 103, 3) := by decide +kernel
theorem dX10_findPeriod_17 : decode cX10_findPeriod 17 = .ok (.istore 5, 2) := by decide +kernel
theorem dX10_findPeriod_19 : decode cX10_findPeriod 19 = .ok (.iload 4, 2) := by decide +kernel
theorem dX10_findPeriod_21 : decode cX10_findPeriod 21 = .ok (.iload 5, 2) := by decide +kernel
theorem dX10_findPeriod_23 : decode cX10_findPeriod 23 = .ok (.if_icmp .eq 32, 3) := by decide +kernel
theorem dX10_findPeriod_26 : decode cX10_findPeriod 26 = .ok (.aload_n 0, 1) := by decide +kernel
theorem dX10_findPeriod_27 : decode cX10_findPeriod 27 = .ok (.iload_n 1, 1) := by decide +kernel
theorem dX10_findPeriod_28 : decode cX10_findPeriod 28 = .ok (.iload 4, 2) := by decide +kernel
theorem dX10_findPeriod_30 : decode cX10_findPeriod 30 = .ok (.iload_n 3, 1) := by decide +kernel
theorem dX10_findPeriod_31 : decode cX10_findPeriod 31 = .ok (.invokevirtual 103, 3) := by decide +kernel
theorem dX10_findPeriod_34 : decode cX10_findPeriod 34 = .ok (.istore 4, 2) := by decide +kernel
theorem dX10_findPeriod_36 : decode cX10_findPeriod 36 = .ok (.aload_n 0, 1) := by decide +kernel
theorem dX10_findPeriod_37 : decode cX10_findPeriod 37 = .ok (.iload_n 1, 1) := by decide +kernel
theorem dX10_findPeriod_38 : decode cX10_findPeriod 38 = .ok (.aload_n 0, 1) := by decide +kernel
theorem dX10_findPeriod_39 : decode cX10_findPeriod 39 = .ok (.iload_n 1, 1) := by decide +kernel
theorem dX10_findPeriod_40 : decode cX10_findPeriod 40 = .ok (.iload 5, 2) := by decide +kernel
theorem dX10_findPeriod_42 : decode cX10_findPeriod 42 = .ok (.iload_n 3, 1) := by decide +kernel
theorem dX10_findPeriod_43 : decode cX10_findPeriod 43 = .ok (.invokevirtual 103, 3) := by decide +kernel
theorem dX10_findPeriod_46 : decode cX10_findPeriod 46 = .ok (.iload_n 3, 1) := by decide +kernel
theorem dX10_findPeriod_47 : decode cX10_findPeriod 47 = .ok (.invokevirtual 103, 3) := by decide +kernel
theorem dX10_findPeriod_50 : decode cX10_findPeriod 50 = .ok (.istore 5, 2) := by decide +kernel
theorem dX10_findPeriod_52 : decode cX10_findPeriod 52 = .ok (.goto (-33), 3) := by decide +kernel
theorem dX10_findPeriod_55 : decode cX10_findPeriod 55 = .ok (.aload_n 0, 1) := by decide +kernel
theorem dX10_findPeriod_56 : decode cX10_findPeriod 56 = .ok (.iconst 0, 1) := by decide +kernel
theorem dX10_findPeriod_57 : decode cX10_findPeriod 57 = .ok (.putfield 106, 3) := by decide +kernel
theorem dX10_findPeriod_60 : decode cX10_findPeriod 60 = .ok (.iload_n 2, 1) := by decide +kernel
theorem dX10_findPeriod_61 : decode cX10_findPeriod 61 = .ok (.istore 4, 2) := by decide +kernel
theorem dX10_findPeriod_63 : decode cX10_findPeriod 63 = .ok (.iload 4, 2) := by decide +kernel
theorem dX10_findPeriod_65 : decode cX10_findPeriod 65 = .ok (.iload 5, 2) := by decide +kernel
theorem dX10_findPeriod_67 : decode cX10_findPeriod 67 = .ok (.if_icmp .eq 36, 3) := by decide +kernel
theorem dX10_findPeriod_70 : decode cX10_findPeriod 70 = .ok (.aload_n 0, 1) := by decide +kernel
theorem dX10_findPeriod_71 : decode cX10_findPeriod 71 = .ok (.iload_n 1, 1) := by decide +kernel
theorem dX10_findPeriod_72 : decode cX10_findPeriod 72 = .ok (.iload 4, 2) := by decide +kernel
theorem dX10_findPeriod_74 : decode cX10_findPeriod 74 = .ok (.iload_n 3, 1) := by decide +kernel
theorem dX10_findPeriod_75 : decode cX10_findPeriod 75 = .ok (.invokevirtual 103, 3) := by decide +kernel
theorem dX10_findPeriod_78 : decode cX10_findPeriod 78 = .ok (.istore 4, 2) := by decide +kernel
theorem dX10_findPeriod_80 : decode cX10_findPeriod 80 = .ok (.aload_n 0, 1) := by decide +kernel
theorem dX10_findPeriod_81 : decode cX10_findPeriod 81 = .ok (.iload_n 1, 1) := by decide +kernel
theorem dX10_findPeriod_82 : decode cX10_findPeriod 82 = .ok (.iload 5, 2) := by decide +kernel
theorem dX10_findPeriod_84 : decode cX10_findPeriod 84 = .ok (.iload_n 3, 1) := by decide +kernel
theorem dX10_findPeriod_85 : decode cX10_findPeriod 85 = .ok (.invokevirtual 103, 3) := by decide +kernel
theorem dX10_findPeriod_88 : decode cX10_findPeriod 88 = .ok (.istore 5, 2) := by decide +kernel
theorem dX10_findPeriod_90 : decode cX10_findPeriod 90 = .ok (.aload_n 0, 1) := by decide +kernel
theorem dX10_findPeriod_91 : decode cX10_findPeriod 91 = .ok (.dup, 1) := by decide +kernel
theorem dX10_findPeriod_92 : decode cX10_findPeriod 92 = .ok (.getfield 106, 3) := by decide +kernel
theorem dX10_findPeriod_95 : decode cX10_findPeriod 95 = .ok (.iconst 1, 1) := by decide +kernel
theorem dX10_findPeriod_96 : decode cX10_findPeriod 96 = .ok (.iadd, 1) := by decide +kernel
theorem dX10_findPeriod_97 : decode cX10_findPeriod 97 = .ok (.putfield 106, 3) := by decide +kernel
theorem dX10_findPeriod_100 : decode cX10_findPeriod 100 = .ok (.goto (-37), 3) := by decide +kernel
theorem dX10_findPeriod_103 : decode cX10_findPeriod 103 = .ok (.aload_n 0, 1) := by decide +kernel
theorem dX10_findPeriod_104 : decode cX10_findPeriod 104 = .ok (.iconst 1, 1) := by decide +kernel
theorem dX10_findPeriod_105 : decode cX10_findPeriod 105 = .ok (.putfield 110, 3) := by decide +kernel
theorem dX10_findPeriod_108 : decode cX10_findPeriod 108 = .ok (.aload_n 0, 1) := by decide +kernel
theorem dX10_findPeriod_109 : decode cX10_findPeriod 109 = .ok (.iload_n 1, 1) := by decide +kernel
theorem dX10_findPeriod_110 : decode cX10_findPeriod 110 = .ok (.iload 4, 2) := by decide +kernel
theorem dX10_findPeriod_112 : decode cX10_findPeriod 112 = .ok (.iload_n 3, 1) := by decide +kernel
theorem dX10_findPeriod_113 : decode cX10_findPeriod 113 = .ok (.invokevirtual 103, 3) := by decide +kernel
theorem dX10_findPeriod_116 : decode cX10_findPeriod 116 = .ok (.istore 5, 2) := by decide +kernel
theorem dX10_findPeriod_118 : decode cX10_findPeriod 118 = .ok (.iload 4, 2) := by decide +kernel
theorem dX10_findPeriod_120 : decode cX10_findPeriod 120 = .ok (.iload 5, 2) := by decide +kernel
theorem dX10_findPeriod_122 : decode cX10_findPeriod 122 = .ok (.if_icmp .eq 26, 3) := by decide +kernel
theorem dX10_findPeriod_125 : decode cX10_findPeriod 125 = .ok (.aload_n 0, 1) := by decide +kernel
theorem dX10_findPeriod_126 : decode cX10_findPeriod 126 = .ok (.iload_n 1, 1) := by decide +kernel
theorem dX10_findPeriod_127 : decode cX10_findPeriod 127 = .ok (.iload 5, 2) := by decide +kernel
theorem dX10_findPeriod_129 : decode cX10_findPeriod 129 = .ok (.iload_n 3, 1) := by decide +kernel
theorem dX10_findPeriod_130 : decode cX10_findPeriod 130 = .ok (.invokevirtual 103, 3) := by decide +kernel
theorem dX10_findPeriod_133 : decode cX10_findPeriod 133 = .ok (.istore 5, 2) := by decide +kernel
theorem dX10_findPeriod_135 : decode cX10_findPeriod 135 = .ok (.aload_n 0, 1) := by decide +kernel
theorem dX10_findPeriod_136 : decode cX10_findPeriod 136 = .ok (.dup, 1) := by decide +kernel
theorem dX10_findPeriod_137 : decode cX10_findPeriod 137 = .ok (.getfield 110, 3) := by decide +kernel
theorem dX10_findPeriod_140 : decode cX10_findPeriod 140 = .ok (.iconst 1, 1) := by decide +kernel
theorem dX10_findPeriod_141 : decode cX10_findPeriod 141 = .ok (.iadd, 1) := by decide +kernel
theorem dX10_findPeriod_142 : decode cX10_findPeriod 142 = .ok (.putfield 110, 3) := by decide +kernel
theorem dX10_findPeriod_145 : decode cX10_findPeriod 145 = .ok (.goto (-27), 3) := by decide +kernel
theorem dX10_findPeriod_148 : decode cX10_findPeriod 148 = .ok (.return_, 1) := by decide +kernel
set_option maxRecDepth 20000 in
theorem ggX10_fractionBarred_X10_noSystem : GoodIn wsX10_fractionBarred wsX10_noSystem := goodIn_r _ [12, 13, 14, 11, 15] (by decide +kernel) (by decide +kernel)
set_option maxRecDepth 20000 in
theorem gX10_fractionBarred_X10_noSystem : GoodIn wsX10_fractionBarred (va_wsS RX10 70 yX10_noSystem wsX10_noSystem) := goodIn_app (goodIn_of _ (by decide +kernel)) ggX10_fractionBarred_X10_noSystem
set_option maxRecDepth 20000 in
theorem ggX10_fractionBarred_X10_in : GoodIn wsX10_fractionBarred wsX10_in := goodIn_r _ [15] (by decide +kernel) (by decide +kernel)
set_option maxRecDepth 20000 in
theorem gX10_fractionBarred_X10_in : GoodIn wsX10_fractionBarred (va_wsS RX10 62 yX10_in wsX10_in) := goodIn_app (goodIn_of _ (by decide +kernel)) ggX10_fractionBarred_X10_in
set_option maxRecDepth 20000 in
theorem ggX10_fractionBarred_X10_isComplete : GoodIn wsX10_fractionBarred wsX10_isComplete := goodIn_r _ [19, 7, 20, 21, 11, 22, 23, 24, 25, 26, 27, 28, 29, 30, 31, 32, 36, 37, 38, 39, 40, 41, 42, 43, 44, 45, 46, 47, 48, 49, 50, 51, 52, 53, 54, 55, 56] (by decide +kernel) (by decide +kernel)
set_option maxRecDepth 20000 in
theorem gX10_fractionBarred_X10_isComplete : GoodIn wsX10_fractionBarred (wsV RX10 96 RX10 yX10_isComplete wsX10_isComplete) := goodIn_app (goodIn_of _ (by decide +kernel)) ggX10_fractionBarred_X10_isComplete
set_option maxRecDepth 20000 in
theorem ggX10_fractionBarred_X10_absolute : GoodIn wsX10_fractionBarred wsX10_absolute := goodIn_r _ [22] (by decide +kernel) (by decide +kernel)
set_option maxRecDepth 20000 in
theorem gX10_fractionBarred_X10_absolute : GoodIn wsX10_fractionBarred (va_wsS RX10 66 yX10_absolute wsX10_absolute) := goodIn_app (goodIn_of _ (by decide +kernel)) ggX10_fractionBarred_X10_absolute
set_option maxRecDepth 20000 in
theorem ggX10_fractionBarred_X10_common : GoodIn wsX10_fractionBarred wsX10_common := goodIn_r _ [35] (by decide +kernel) (by decide +kernel)
set_option maxRecDepth 20000 in
theorem gX10_fractionBarred_X10_common : GoodIn wsX10_fractionBarred (va_wsS RX10 75 yX10_common wsX10_common) := goodIn_app (goodIn_of _ (by decide +kernel)) ggX10_fractionBarred_X10_common
theorem dX10_fractionBarred_0 : decode cX10_fractionBarred 0 = .ok (.iload_n 1, 1) := by decide +kernel
theorem dX10_fractionBarred_1 : decode cX10_fractionBarred 1 = .ok (.invokestatic 70, 3) := by decide +kernel
theorem dX10_fractionBarred_4 : decode cX10_fractionBarred 4 = .ok (.ifCond .eq 6, 3) := by decide +kernel
theorem dX10_fractionBarred_7 : decode cX10_fractionBarred 7 = .ok (.ldc 74, 2) := by decide +kernel
theorem dX10_fractionBarred_9 : decode cX10_fractionBarred 9 = .ok (.ireturn, 1) := by decide +kernel
theorem dX10_fractionBarred_10 : decode cX10_fractionBarred 10 = .ok (.iload_n 2, 1) := by decide +kernel
theorem dX10_fractionBarred_11 : decode cX10_fractionBarred 11 = .ok (.ldc 113, 2) := by decide +kernel
theorem dX10_fractionBarred_13 : decode cX10_fractionBarred 13 = .ok (.ldc 114, 2) := by decide +kernel
theorem dX10_fractionBarred_15 : decode cX10_fractionBarred 15 = .ok (.invokestatic 62, 3) := by decide +kernel
theorem dX10_fractionBarred_18 : decode cX10_fractionBarred 18 = .ok (.ifCond .eq 24, 3) := by decide +kernel
theorem dX10_fractionBarred_21 : decode cX10_fractionBarred 21 = .ok (.iload_n 3, 1) := by decide +kernel
theorem dX10_fractionBarred_22 : decode cX10_fractionBarred 22 = .ok (.iconst 1, 1) := by decide +kernel
theorem dX10_fractionBarred_23 : decode cX10_fractionBarred 23 = .ok (.bipush 60, 2) := by decide +kernel
theorem dX10_fractionBarred_25 : decode cX10_fractionBarred 25 = .ok (.invokestatic 62, 3) := by decide +kernel
theorem dX10_fractionBarred_28 : decode cX10_fractionBarred 28 = .ok (.ifCond .eq 14, 3) := by decide +kernel
theorem dX10_fractionBarred_31 : decode cX10_fractionBarred 31 = .ok (.iload 4, 2) := by decide +kernel
theorem dX10_fractionBarred_33 : decode cX10_fractionBarred 33 = .ok (.iconst 0, 1) := by decide +kernel
theorem dX10_fractionBarred_34 : decode cX10_fractionBarred 34 = .ok (.ldc 115, 2) := by decide +kernel
theorem dX10_fractionBarred_36 : decode cX10_fractionBarred 36 = .ok (.invokestatic 62, 3) := by decide +kernel
theorem dX10_fractionBarred_39 : decode cX10_fractionBarred 39 = .ok (.ifCond .ne 6, 3) := by decide +kernel
theorem dX10_fractionBarred_42 : decode cX10_fractionBarred 42 = .ok (.ldc 79, 2) := by decide +kernel
theorem dX10_fractionBarred_44 : decode cX10_fractionBarred 44 = .ok (.ireturn, 1) := by decide +kernel
theorem dX10_fractionBarred_45 : decode cX10_fractionBarred 45 = .ok (.aload_n 0, 1) := by decide +kernel
theorem dX10_fractionBarred_46 : decode cX10_fractionBarred 46 = .ok (.iload_n 1, 1) := by decide +kernel
theorem dX10_fractionBarred_47 : decode cX10_fractionBarred 47 = .ok (.invokevirtual 96, 3) := by decide +kernel
theorem dX10_fractionBarred_50 : decode cX10_fractionBarred 50 = .ok (.ifCond .ne 6, 3) := by decide +kernel
theorem dX10_fractionBarred_53 : decode cX10_fractionBarred 53 = .ok (.ldc 116, 2) := by decide +kernel
theorem dX10_fractionBarred_55 : decode cX10_fractionBarred 55 = .ok (.ireturn, 1) := by decide +kernel
theorem dX10_fractionBarred_56 : decode cX10_fractionBarred 56 = .ok (.iload_n 3, 1) := by decide +kernel
theorem dX10_fractionBarred_57 : decode cX10_fractionBarred 57 = .ok (.i2l, 1) := by decide +kernel
theorem dX10_fractionBarred_58 : decode cX10_fractionBarred 58 = .ok (.aload_n 0, 1) := by decide +kernel
theorem dX10_fractionBarred_59 : decode cX10_fractionBarred 59 = .ok (.getfield 7, 3) := by decide +kernel
theorem dX10_fractionBarred_62 : decode cX10_fractionBarred 62 = .ok (.iload_n 1, 1) := by decide +kernel
theorem dX10_fractionBarred_63 : decode cX10_fractionBarred 63 = .ok (.iaload, 1) := by decide +kernel
theorem dX10_fractionBarred_64 : decode cX10_fractionBarred 64 = .ok (.invokestatic 66, 3) := by decide +kernel
theorem dX10_fractionBarred_67 : decode cX10_fractionBarred 67 = .ok (.i2l, 1) := by decide +kernel
theorem dX10_fractionBarred_68 : decode cX10_fractionBarred 68 = .ok (.invokestatic 75, 3) := by decide +kernel
theorem dX10_fractionBarred_71 : decode cX10_fractionBarred 71 = .ok (.lconst 1, 1) := by decide +kernel
theorem dX10_fractionBarred_72 : decode cX10_fractionBarred 72 = .ok (.lcmp, 1) := by decide +kernel
theorem dX10_fractionBarred_73 : decode cX10_fractionBarred 73 = .ok (.ifCond .ne 7, 3) := by decide +kernel
theorem dX10_fractionBarred_76 : decode cX10_fractionBarred 76 = .ok (.iconst 0, 1) := by decide +kernel
theorem dX10_fractionBarred_77 : decode cX10_fractionBarred 77 = .ok (.goto 5, 3) := by decide +kernel
theorem dX10_fractionBarred_80 : decode cX10_fractionBarred 80 = .ok (.ldc 84, 2) := by decide +kernel
theorem dX10_fractionBarred_82 : decode cX10_fractionBarred 82 = .ok (.ireturn, 1) := by decide +kernel
set_option maxRecDepth 20000 in
theorem ggX10_numeratorAt_X10_findPeriod : GoodIn wsX10_numeratorAt wsX10_findPeriod := goodIn_r _ [7, 1, 2, 8, 9, 10, 6, 11, 12, 13, 14, 15, 16, 17, 18, 19, 20, 21, 22, 23, 24, 25, 26, 27, 28, 29, 30, 31, 32, 33, 34, 35, 36, 37, 38, 39, 40, 41, 42, 43] (by decide +kernel) (by decide +kernel)
set_option maxRecDepth 20000 in
theorem gX10_numeratorAt_X10_findPeriod : GoodIn wsX10_numeratorAt (wsV RX10 117 RX10 yX10_findPeriod wsX10_findPeriod) := goodIn_app (goodIn_of _ (by decide +kernel)) ggX10_numeratorAt_X10_findPeriod
set_option maxRecDepth 20000 in
theorem ggX10_numeratorAt_X10_step : GoodIn wsX10_numeratorAt wsX10_step := goodIn_r _ [11, 12, 13, 14, 15, 16, 6, 17, 18, 19, 20, 21, 22, 23, 24, 25, 26, 27, 28, 29, 30, 31, 32, 33, 34, 35, 36, 37, 38, 39, 40, 41, 42, 43] (by decide +kernel) (by decide +kernel)
set_option maxRecDepth 20000 in
theorem gX10_numeratorAt_X10_step : GoodIn wsX10_numeratorAt (wsV RX10 103 RX10 yX10_step wsX10_step) := goodIn_app (goodIn_of _ (by decide +kernel)) ggX10_numeratorAt_X10_step
theorem dX10_numeratorAt_0 : decode cX10_numeratorAt 0 = .ok (.aload_n 0, 1) := by decide +kernel
theorem dX10_numeratorAt_1 : decode cX10_numeratorAt 1 = .ok (.iload_n 1, 1) := by decide +kernel
theorem dX10_numeratorAt_2 : decode cX10_numeratorAt 2 = .ok (.iload_n 2, 1) := by decide +kernel
theorem dX10_numeratorAt_3 : decode cX10_numeratorAt 3 = .ok (.iload_n 3, 1) := by decide +kernel
theorem dX10_numeratorAt_4 : decode cX10_numeratorAt 4 = .ok (.invokevirtual 117, 3) := by decide +kernel
theorem dX10_numeratorAt_7 : decode cX10_numeratorAt 7 = .ok (.iload 4, 2) := by decide +kernel
theorem dX10_numeratorAt_9 : decode cX10_numeratorAt 9 = .ok (.aload_n 0, 1) := by decide +kernel
theorem dX10_numeratorAt_10 : decode cX10_numeratorAt 10 = .ok (.getfield 106, 3) := by decide +kernel
theorem dX10_numeratorAt_13 : decode cX10_numeratorAt 13 = .ok (.if_icmp .ge 8, 3) := by decide +kernel
theorem dX10_numeratorAt_16 : decode cX10_numeratorAt 16 = .ok (.iload 4, 2) := by decide +kernel
theorem dX10_numeratorAt_18 : decode cX10_numeratorAt 18 = .ok (.goto 20, 3) := by decide +kernel
theorem dX10_numeratorAt_21 : decode cX10_numeratorAt 21 = .ok (.aload_n 0, 1) := by decide +kernel
theorem dX10_numeratorAt_22 : decode cX10_numeratorAt 22 = .ok (.getfield 106, 3) := by decide +kernel
theorem dX10_numeratorAt_25 : decode cX10_numeratorAt 25 = .ok (.iload 4, 2) := by decide +kernel
theorem dX10_numeratorAt_27 : decode cX10_numeratorAt 27 = .ok (.aload_n 0, 1) := by decide +kernel
theorem dX10_numeratorAt_28 : decode cX10_numeratorAt 28 = .ok (.getfield 106, 3) := by decide +kernel
theorem dX10_numeratorAt_31 : decode cX10_numeratorAt 31 = .ok (.isub, 1) := by decide +kernel
theorem dX10_numeratorAt_32 : decode cX10_numeratorAt 32 = .ok (.aload_n 0, 1) := by decide +kernel
theorem dX10_numeratorAt_33 : decode cX10_numeratorAt 33 = .ok (.getfield 110, 3) := by decide +kernel
theorem dX10_numeratorAt_36 : decode cX10_numeratorAt 36 = .ok (.irem, 1) := by decide +kernel
theorem dX10_numeratorAt_37 : decode cX10_numeratorAt 37 = .ok (.iadd, 1) := by decide +kernel
theorem dX10_numeratorAt_38 : decode cX10_numeratorAt 38 = .ok (.istore 5, 2) := by decide +kernel
theorem dX10_numeratorAt_40 : decode cX10_numeratorAt 40 = .ok (.iload_n 2, 1) := by decide +kernel
theorem dX10_numeratorAt_41 : decode cX10_numeratorAt 41 = .ok (.istore 6, 2) := by decide +kernel
theorem dX10_numeratorAt_43 : decode cX10_numeratorAt 43 = .ok (.iconst 0, 1) := by decide +kernel
theorem dX10_numeratorAt_44 : decode cX10_numeratorAt 44 = .ok (.istore 7, 2) := by decide +kernel
theorem dX10_numeratorAt_46 : decode cX10_numeratorAt 46 = .ok (.iload 7, 2) := by decide +kernel
theorem dX10_numeratorAt_48 : decode cX10_numeratorAt 48 = .ok (.iload 5, 2) := by decide +kernel
theorem dX10_numeratorAt_50 : decode cX10_numeratorAt 50 = .ok (.if_icmp .ge 19, 3) := by decide +kernel
theorem dX10_numeratorAt_53 : decode cX10_numeratorAt 53 = .ok (.aload_n 0, 1) := by decide +kernel
theorem dX10_numeratorAt_54 : decode cX10_numeratorAt 54 = .ok (.iload_n 1, 1) := by decide +kernel
theorem dX10_numeratorAt_55 : decode cX10_numeratorAt 55 = .ok (.iload 6, 2) := by decide +kernel
theorem dX10_numeratorAt_57 : decode cX10_numeratorAt 57 = .ok (.iload_n 3, 1) := by decide +kernel
theorem dX10_numeratorAt_58 : decode cX10_numeratorAt 58 = .ok (.invokevirtual 103, 3) := by decide +kernel
theorem dX10_numeratorAt_61 : decode cX10_numeratorAt 61 = .ok (.istore 6, 2) := by decide +kernel
theorem dX10_numeratorAt_63 : decode cX10_numeratorAt 63 = .ok (.iinc 7 1, 3) := by decide +kernel
theorem dX10_numeratorAt_66 : decode cX10_numeratorAt 66 = .ok (.goto (-20), 3) := by decide +kernel
theorem dX10_numeratorAt_69 : decode cX10_numeratorAt 69 = .ok (.iload 6, 2) := by decide +kernel
theorem dX10_numeratorAt_71 : decode cX10_numeratorAt 71 = .ok (.ireturn, 1) := by decide +kernel
set_option maxRecDepth 20000 in
theorem ggX10_digit_X10_fractionBarred : GoodIn wsX10_digit wsX10_fractionBarred := goodIn_r _ [5, 6, 7, 8, 9, 10, 11, 12, 13, 14, 15, 4, 16, 17, 18, 19, 20, 21, 22, 23, 24, 25, 26, 27, 28, 29, 30, 31, 32, 33, 34, 35, 36, 37, 38, 39, 59, 60, 61, 62, 63, 64, 65, 66, 67, 68, 69, 70, 71, 72, 73, 74, 75, 76, 77, 78, 79] (by decide +kernel) (by decide +kernel)
set_option maxRecDepth 20000 in
theorem gX10_digit_X10_fractionBarred : GoodIn wsX10_digit (wsV RX10 120 RX10 yX10_fractionBarred wsX10_fractionBarred) := goodIn_app (goodIn_of _ (by decide +kernel)) ggX10_digit_X10_fractionBarred
set_option maxRecDepth 20000 in
theorem ggX10_digit_X10_numeratorAt : GoodIn wsX10_digit wsX10_numeratorAt := goodIn_r _ [43, 44, 45, 46, 47, 48, 4, 49, 50, 51, 52, 53, 54, 12, 55, 56, 57, 58, 31, 32, 24, 25, 26, 59, 60, 61, 62, 63, 64, 65, 66, 67, 68, 69, 70, 71, 72, 73, 74, 75, 76, 77, 78, 79] (by decide +kernel) (by decide +kernel)
set_option maxRecDepth 20000 in
theorem gX10_digit_X10_numeratorAt : GoodIn wsX10_digit (wsV RX10 124 RX10 yX10_numeratorAt wsX10_numeratorAt) := goodIn_app (goodIn_of _ (by decide +kernel)) ggX10_digit_X10_numeratorAt
set_option maxRecDepth 20000 in
theorem ggX10_digit_X10_stepDigit : GoodIn wsX10_digit wsX10_stepDigit := goodIn_r _ [58, 12, 31, 54, 32, 24, 25, 4, 26, 59, 60, 61, 62, 63, 64, 65, 66, 67, 68, 69, 70, 71, 72, 73, 74, 75, 76, 77, 78, 79] (by decide +kernel) (by decide +kernel)
set_option maxRecDepth 20000 in
theorem gX10_digit_X10_stepDigit : GoodIn wsX10_digit (wsV RX10 99 RX10 yX10_stepDigit wsX10_stepDigit) := goodIn_app (goodIn_of _ (by decide +kernel)) ggX10_digit_X10_stepDigit
theorem dX10_digit_0 : decode cX10_digit 0 = .ok (.aload_n 0, 1) := by decide +kernel
theorem dX10_digit_1 : decode cX10_digit 1 = .ok (.iload_n 1, 1) := by decide +kernel
theorem dX10_digit_2 : decode cX10_digit 2 = .ok (.iload_n 2, 1) := by decide +kernel
theorem dX10_digit_3 : decode cX10_digit 3 = .ok (.iload_n 3, 1) := by decide +kernel
theorem dX10_digit_4 : decode cX10_digit 4 = .ok (.iload 4, 2) := by decide +kernel
theorem dX10_digit_6 : decode cX10_digit 6 = .ok (.invokevirtual 120, 3) := by decide +kernel
theorem dX10_digit_9 : decode cX10_digit 9 = .ok (.istore 5, 2) := by decide +kernel
theorem dX10_digit_11 : decode cX10_digit 11 = .ok (.iload 5, 2) := by decide +kernel
theorem dX10_digit_13 : decode cX10_digit 13 = .ok (.ifCond .ge 8, 3) := by decide +kernel
theorem dX10_digit_16 : decode cX10_digit 16 = .ok (.iload 5, 2) := by decide +kernel
theorem dX10_digit_18 : decode cX10_digit 18 = .ok (.goto 18, 3) := by decide +kernel
theorem dX10_digit_21 : decode cX10_digit 21 = .ok (.aload_n 0, 1) := by decide +kernel
theorem dX10_digit_22 : decode cX10_digit 22 = .ok (.iload_n 1, 1) := by decide +kernel
theorem dX10_digit_23 : decode cX10_digit 23 = .ok (.aload_n 0, 1) := by decide +kernel
theorem dX10_digit_24 : decode cX10_digit 24 = .ok (.iload_n 1, 1) := by decide +kernel
theorem dX10_digit_25 : decode cX10_digit 25 = .ok (.iload_n 2, 1) := by decide +kernel
theorem dX10_digit_26 : decode cX10_digit 26 = .ok (.iload_n 3, 1) := by decide +kernel
theorem dX10_digit_27 : decode cX10_digit 27 = .ok (.iload 4, 2) := by decide +kernel
theorem dX10_digit_29 : decode cX10_digit 29 = .ok (.invokevirtual 124, 3) := by decide +kernel
theorem dX10_digit_32 : decode cX10_digit 32 = .ok (.iload_n 3, 1) := by decide +kernel
theorem dX10_digit_33 : decode cX10_digit 33 = .ok (.invokevirtual 99, 3) := by decide +kernel
theorem dX10_digit_36 : decode cX10_digit 36 = .ok (.ireturn, 1) := by decide +kernel
set_option maxRecDepth 20000 in
theorem ggX10_numerator_X10_fractionBarred : GoodIn wsX10_numerator wsX10_fractionBarred := goodIn_r _ [5, 6, 7, 8, 9, 10, 11, 12, 13, 14, 15, 4, 16, 17, 18, 19, 20, 21, 22, 23, 24, 25, 26, 27, 28, 29, 30, 31, 32, 33, 34, 35, 36, 37, 38, 39, 59, 60, 61, 62, 63, 64, 65, 66, 67, 68, 69, 70, 71, 72, 73, 74, 75, 76, 77, 78, 79] (by decide +kernel) (by decide +kernel)
set_option maxRecDepth 20000 in
theorem gX10_numerator_X10_fractionBarred : GoodIn wsX10_numerator (wsV RX10 120 RX10 yX10_fractionBarred wsX10_fractionBarred) := goodIn_app (goodIn_of _ (by decide +kernel)) ggX10_numerator_X10_fractionBarred
set_option maxRecDepth 20000 in
theorem ggX10_numerator_X10_numeratorAt : GoodIn wsX10_numerator wsX10_numeratorAt := goodIn_r _ [43, 44, 45, 46, 47, 48, 4, 49, 50, 51, 52, 53, 54, 12, 55, 56, 57, 58, 31, 32, 24, 25, 26, 59, 60, 61, 62, 63, 64, 65, 66, 67, 68, 69, 70, 71, 72, 73, 74, 75, 76, 77, 78, 79] (by decide +kernel) (by decide +kernel)
set_option maxRecDepth 20000 in
theorem gX10_numerator_X10_numeratorAt : GoodIn wsX10_numerator (wsV RX10 124 RX10 yX10_numeratorAt wsX10_numeratorAt) := goodIn_app (goodIn_of _ (by decide +kernel)) ggX10_numerator_X10_numeratorAt
theorem dX10_numerator_0 : decode cX10_numerator 0 = .ok (.aload_n 0, 1) := by decide +kernel
theorem dX10_numerator_1 : decode cX10_numerator 1 = .ok (.iload_n 1, 1) := by decide +kernel
theorem dX10_numerator_2 : decode cX10_numerator 2 = .ok (.iload_n 2, 1) := by decide +kernel
theorem dX10_numerator_3 : decode cX10_numerator 3 = .ok (.iload_n 3, 1) := by decide +kernel
theorem dX10_numerator_4 : decode cX10_numerator 4 = .ok (.iload 4, 2) := by decide +kernel
theorem dX10_numerator_6 : decode cX10_numerator 6 = .ok (.invokevirtual 120, 3) := by decide +kernel
theorem dX10_numerator_9 : decode cX10_numerator 9 = .ok (.istore 5, 2) := by decide +kernel
theorem dX10_numerator_11 : decode cX10_numerator 11 = .ok (.iload 5, 2) := by decide +kernel
theorem dX10_numerator_13 : decode cX10_numerator 13 = .ok (.ifCond .ge 8, 3) := by decide +kernel
theorem dX10_numerator_16 : decode cX10_numerator 16 = .ok (.iload 5, 2) := by decide +kernel
theorem dX10_numerator_18 : decode cX10_numerator 18 = .ok (.goto 12, 3) := by decide +kernel
theorem dX10_numerator_21 : decode cX10_numerator 21 = .ok (.aload_n 0, 1) := by decide +kernel
theorem dX10_numerator_22 : decode cX10_numerator 22 = .ok (.iload_n 1, 1) := by decide +kernel
theorem dX10_numerator_23 : decode cX10_numerator 23 = .ok (.iload_n 2, 1) := by decide +kernel
theorem dX10_numerator_24 : decode cX10_numerator 24 = .ok (.iload_n 3, 1) := by decide +kernel
theorem dX10_numerator_25 : decode cX10_numerator 25 = .ok (.iload 4, 2) := by decide +kernel
theorem dX10_numerator_27 : decode cX10_numerator 27 = .ok (.invokevirtual 124, 3) := by decide +kernel
theorem dX10_numerator_30 : decode cX10_numerator 30 = .ok (.ireturn, 1) := by decide +kernel
set_option maxRecDepth 20000 in
theorem ggX10_preperiod_X10_fractionBarred : GoodIn wsX10_preperiod wsX10_fractionBarred := goodIn_r _ [6, 7, 8, 9, 10, 11, 12, 13, 14, 15, 16, 5, 17, 18, 19, 20, 21, 22, 23, 24, 25, 26, 27, 28, 29, 30, 31, 32, 33, 34, 35, 36, 37, 38, 39, 40, 55, 56, 57, 58, 59, 60, 61, 62, 63, 64, 65, 66, 67, 68, 69, 70, 71, 72, 73, 74, 75] (by decide +kernel) (by decide +kernel)
set_option maxRecDepth 20000 in
theorem gX10_preperiod_X10_fractionBarred : GoodIn wsX10_preperiod (wsV RX10 120 RX10 yX10_fractionBarred wsX10_fractionBarred) := goodIn_app (goodIn_of _ (by decide +kernel)) ggX10_preperiod_X10_fractionBarred
set_option maxRecDepth 20000 in
theorem ggX10_preperiod_X10_findPeriod : GoodIn wsX10_preperiod wsX10_findPeriod := goodIn_r _ [44, 1, 45, 46, 47, 48, 5, 49, 50, 13, 51, 52, 53, 54, 32, 33, 25, 26, 27, 55, 56, 57, 58, 59, 60, 61, 62, 63, 64, 65, 66, 67, 68, 69, 70, 71, 72, 73, 74, 75] (by decide +kernel) (by decide +kernel)
set_option maxRecDepth 20000 in
theorem gX10_preperiod_X10_findPeriod : GoodIn wsX10_preperiod (wsV RX10 117 RX10 yX10_findPeriod wsX10_findPeriod) := goodIn_app (goodIn_of _ (by decide +kernel)) ggX10_preperiod_X10_findPeriod
theorem dX10_preperiod_0 : decode cX10_preperiod 0 = .ok (.aload_n 0, 1) := by decide +kernel
theorem dX10_preperiod_1 : decode cX10_preperiod 1 = .ok (.iload_n 1, 1) := by decide +kernel
theorem dX10_preperiod_2 : decode cX10_preperiod 2 = .ok (.iload_n 2, 1) := by decide +kernel
theorem dX10_preperiod_3 : decode cX10_preperiod 3 = .ok (.iload_n 3, 1) := by decide +kernel
theorem dX10_preperiod_4 : decode cX10_preperiod 4 = .ok (.iconst 0, 1) := by decide +kernel
theorem dX10_preperiod_5 : decode cX10_preperiod 5 = .ok (.invokevirtual 120, 3) := by decide +kernel
theorem dX10_preperiod_8 : decode cX10_preperiod 8 = .ok (.istore 4, 2) := by decide +kernel
theorem dX10_preperiod_10 : decode cX10_preperiod 10 = .ok (.iload 4, 2) := by decide +kernel
theorem dX10_preperiod_12 : decode cX10_preperiod 12 = .ok (.ifCond .ge 6, 3) := by decide +kernel
theorem dX10_preperiod_15 : decode cX10_preperiod 15 = .ok (.iload 4, 2) := by decide +kernel
theorem dX10_preperiod_17 : decode cX10_preperiod 17 = .ok (.ireturn, 1) := by decide +kernel
theorem dX10_preperiod_18 : decode cX10_preperiod 18 = .ok (.aload_n 0, 1) := by decide +kernel
theorem dX10_preperiod_19 : decode cX10_preperiod 19 = .ok (.iload_n 1, 1) := by decide +kernel
theorem dX10_preperiod_20 : decode cX10_preperiod 20 = .ok (.iload_n 2, 1) := by decide +kernel
theorem dX10_preperiod_21 : decode cX10_preperiod 21 = .ok (.iload_n 3, 1) := by decide +kernel
theorem dX10_preperiod_22 : decode cX10_preperiod 22 = .ok (.invokevirtual 117, 3) := by decide +kernel
theorem dX10_preperiod_25 : decode cX10_preperiod 25 = .ok (.aload_n 0, 1) := by decide +kernel
theorem dX10_preperiod_26 : decode cX10_preperiod 26 = .ok (.getfield 106, 3) := by decide +kernel
theorem dX10_preperiod_29 : decode cX10_preperiod 29 = .ok (.ireturn, 1) := by decide +kernel
set_option maxRecDepth 20000 in
theorem ggX10_period_X10_fractionBarred : GoodIn wsX10_period wsX10_fractionBarred := goodIn_r _ [6, 7, 8, 9, 10, 11, 12, 13, 14, 15, 16, 5, 17, 18, 19, 20, 21, 22, 23, 24, 25, 26, 27, 28, 29, 30, 31, 32, 33, 34, 35, 36, 37, 38, 39, 40, 55, 56, 57, 58, 59, 60, 61, 62, 63, 64, 65, 66, 67, 68, 69, 70, 71, 72, 73, 74, 75] (by decide +kernel) (by decide +kernel)
set_option maxRecDepth 20000 in
theorem gX10_period_X10_fractionBarred : GoodIn wsX10_period (wsV RX10 120 RX10 yX10_fractionBarred wsX10_fractionBarred) := goodIn_app (goodIn_of _ (by decide +kernel)) ggX10_period_X10_fractionBarred
set_option maxRecDepth 20000 in
theorem ggX10_period_X10_findPeriod : GoodIn wsX10_period wsX10_findPeriod := goodIn_r _ [44, 45, 1, 46, 47, 48, 5, 49, 50, 13, 51, 52, 53, 54, 32, 33, 25, 26, 27, 55, 56, 57, 58, 59, 60, 61, 62, 63, 64, 65, 66, 67, 68, 69, 70, 71, 72, 73, 74, 75] (by decide +kernel) (by decide +kernel)
set_option maxRecDepth 20000 in
theorem gX10_period_X10_findPeriod : GoodIn wsX10_period (wsV RX10 117 RX10 yX10_findPeriod wsX10_findPeriod) := goodIn_app (goodIn_of _ (by decide +kernel)) ggX10_period_X10_findPeriod
theorem dX10_period_0 : decode cX10_period 0 = .ok (.aload_n 0, 1) := by decide +kernel
theorem dX10_period_1 : decode cX10_period 1 = .ok (.iload_n 1, 1) := by decide +kernel
theorem dX10_period_2 : decode cX10_period 2 = .ok (.iload_n 2, 1) := by decide +kernel
theorem dX10_period_3 : decode cX10_period 3 = .ok (.iload_n 3, 1) := by decide +kernel
theorem dX10_period_4 : decode cX10_period 4 = .ok (.iconst 0, 1) := by decide +kernel
theorem dX10_period_5 : decode cX10_period 5 = .ok (.invokevirtual 120, 3) := by decide +kernel
