theorem dX10_entry_25 : decode cX10_entry 25 = .ok (.goto 14, 3) := by decide +kernel
theorem dX10_entry_28 : decode cX10_entry 28 = .ok (.aload_n 0, 1) := by decide +kernel
theorem dX10_entry_29 : decode cX10_entry 29 = .ok (.getfield 43, 3) := by decide +kernel
theorem dX10_entry_32 : decode cX10_entry 32 = .ok (.bipush 12, 2) := by decide +kernel
theorem dX10_entry_34 : decode cX10_entry 34 = .ok (.iload_n 1, 1) := by decide +kernel
theorem dX10_entry_35 : decode cX10_entry 35 = .ok (.imul, 1) := by decide +kernel
theorem dX10_entry_36 : decode cX10_entry 36 = .ok (.iload_n 2, 1) := by decide +kernel
theorem dX10_entry_37 : decode cX10_entry 37 = .ok (.iadd, 1) := by decide +kernel
theorem dX10_entry_38 : decode cX10_entry 38 = .ok (.iaload, 1) := by decide +kernel
theorem dX10_entry_39 : decode cX10_entry 39 = .ok (.ireturn, 1) := by decide +kernel
set_option maxRecDepth 20000 in
theorem ggX10_findValue_X10_common : GoodIn wsX10_findValue wsX10_common := goodIn_r _ [10] (by decide +kernel) (by decide +kernel)
set_option maxRecDepth 20000 in
theorem gX10_findValue_X10_common : GoodIn wsX10_findValue (va_wsS RX10 75 yX10_common wsX10_common) := goodIn_app (goodIn_of _ (by decide +kernel)) ggX10_findValue_X10_common
theorem dX10_findValue_0 : decode cX10_findValue 0 = .ok (.aload_n 0, 1) := by decide +kernel
theorem dX10_findValue_1 : decode cX10_findValue 1 = .ok (.lconst 0, 1) := by decide +kernel
theorem dX10_findValue_2 : decode cX10_findValue 2 = .ok (.putfield 157, 3) := by decide +kernel
theorem dX10_findValue_5 : decode cX10_findValue 5 = .ok (.aload_n 0, 1) := by decide +kernel
theorem dX10_findValue_6 : decode cX10_findValue 6 = .ok (.lconst 1, 1) := by decide +kernel
theorem dX10_findValue_7 : decode cX10_findValue 7 = .ok (.putfield 161, 3) := by decide +kernel
theorem dX10_findValue_10 : decode cX10_findValue 10 = .ok (.aload_n 0, 1) := by decide +kernel
theorem dX10_findValue_11 : decode cX10_findValue 11 = .ok (.getfield 40, 3) := by decide +kernel
theorem dX10_findValue_14 : decode cX10_findValue 14 = .ok (.iload_n 2, 1) := by decide +kernel
theorem dX10_findValue_15 : decode cX10_findValue 15 = .ok (.iaload, 1) := by decide +kernel
theorem dX10_findValue_16 : decode cX10_findValue 16 = .ok (.iconst 1, 1) := by decide +kernel
theorem dX10_findValue_17 : decode cX10_findValue 17 = .ok (.isub, 1) := by decide +kernel
theorem dX10_findValue_18 : decode cX10_findValue 18 = .ok (.istore_n 3, 1) := by decide +kernel
theorem dX10_findValue_19 : decode cX10_findValue 19 = .ok (.iload_n 3, 1) := by decide +kernel
theorem dX10_findValue_20 : decode cX10_findValue 20 = .ok (.ifCond .lt 82, 3) := by decide +kernel
theorem dX10_findValue_23 : decode cX10_findValue 23 = .ok (.aload_n 0, 1) := by decide +kernel
theorem dX10_findValue_24 : decode cX10_findValue 24 = .ok (.getfield 43, 3) := by decide +kernel
theorem dX10_findValue_27 : decode cX10_findValue 27 = .ok (.bipush 12, 2) := by decide +kernel
theorem dX10_findValue_29 : decode cX10_findValue 29 = .ok (.iload_n 2, 1) := by decide +kernel
theorem dX10_findValue_30 : decode cX10_findValue 30 = .ok (.imul, 1) := by decide +kernel
theorem dX10_findValue_31 : decode cX10_findValue 31 = .ok (.iload_n 3, 1) := by decide +kernel
theorem dX10_findValue_32 : decode cX10_findValue 32 = .ok (.iadd, 1) := by decide +kernel
theorem dX10_findValue_33 : decode cX10_findValue 33 = .ok (.iaload, 1) := by decide +kernel
theorem dX10_findValue_34 : decode cX10_findValue 34 = .ok (.i2l, 1) := by decide +kernel
theorem dX10_findValue_35 : decode cX10_findValue 35 = .ok (.aload_n 0, 1) := by decide +kernel
theorem dX10_findValue_36 : decode cX10_findValue 36 = .ok (.getfield 161, 3) := by decide +kernel
theorem dX10_findValue_39 : decode cX10_findValue 39 = .ok (.lmul, 1) := by decide +kernel
theorem dX10_findValue_40 : decode cX10_findValue 40 = .ok (.aload_n 0, 1) := by decide +kernel
theorem dX10_findValue_41 : decode cX10_findValue 41 = .ok (.getfield 7, 3) := by decide +kernel
theorem dX10_findValue_44 : decode cX10_findValue 44 = .ok (.iload_n 1, 1) := by decide +kernel
theorem dX10_findValue_45 : decode cX10_findValue 45 = .ok (.iaload, 1) := by decide +kernel
theorem dX10_findValue_46 : decode cX10_findValue 46 = .ok (.i2l, 1) := by decide +kernel
theorem dX10_findValue_47 : decode cX10_findValue 47 = .ok (.aload_n 0, 1) := by decide +kernel
theorem dX10_findValue_48 : decode cX10_findValue 48 = .ok (.getfield 157, 3) := by decide +kernel
theorem dX10_findValue_51 : decode cX10_findValue 51 = .ok (.lmul, 1) := by decide +kernel
theorem dX10_findValue_52 : decode cX10_findValue 52 = .ok (.ladd, 1) := by decide +kernel
theorem dX10_findValue_53 : decode cX10_findValue 53 = .ok (.lstore 4, 2) := by decide +kernel
theorem dX10_findValue_55 : decode cX10_findValue 55 = .ok (.aload_n 0, 1) := by decide +kernel
theorem dX10_findValue_56 : decode cX10_findValue 56 = .ok (.getfield 13, 3) := by decide +kernel
theorem dX10_findValue_59 : decode cX10_findValue 59 = .ok (.iload_n 1, 1) := by decide +kernel
theorem dX10_findValue_60 : decode cX10_findValue 60 = .ok (.iaload, 1) := by decide +kernel
theorem dX10_findValue_61 : decode cX10_findValue 61 = .ok (.i2l, 1) := by decide +kernel
theorem dX10_findValue_62 : decode cX10_findValue 62 = .ok (.aload_n 0, 1) := by decide +kernel
theorem dX10_findValue_63 : decode cX10_findValue 63 = .ok (.getfield 161, 3) := by decide +kernel
theorem dX10_findValue_66 : decode cX10_findValue 66 = .ok (.lmul, 1) := by decide +kernel
theorem dX10_findValue_67 : decode cX10_findValue 67 = .ok (.lstore 6, 2) := by decide +kernel
theorem dX10_findValue_69 : decode cX10_findValue 69 = .ok (.lload 4, 2) := by decide +kernel
theorem dX10_findValue_71 : decode cX10_findValue 71 = .ok (.lload 6, 2) := by decide +kernel
theorem dX10_findValue_73 : decode cX10_findValue 73 = .ok (.invokestatic 75, 3) := by decide +kernel
theorem dX10_findValue_76 : decode cX10_findValue 76 = .ok (.lstore 8, 2) := by decide +kernel
theorem dX10_findValue_78 : decode cX10_findValue 78 = .ok (.aload_n 0, 1) := by decide +kernel
theorem dX10_findValue_79 : decode cX10_findValue 79 = .ok (.lload 4, 2) := by decide +kernel
theorem dX10_findValue_81 : decode cX10_findValue 81 = .ok (.lload 8, 2) := by decide +kernel
theorem dX10_findValue_83 : decode cX10_findValue 83 = .ok (.ldiv, 1) := by decide +kernel
theorem dX10_findValue_84 : decode cX10_findValue 84 = .ok (.putfield 157, 3) := by decide +kernel
theorem dX10_findValue_87 : decode cX10_findValue 87 = .ok (.aload_n 0, 1) := by decide +kernel
theorem dX10_findValue_88 : decode cX10_findValue 88 = .ok (.lload 6, 2) := by decide +kernel
theorem dX10_findValue_90 : decode cX10_findValue 90 = .ok (.lload 8, 2) := by decide +kernel
theorem dX10_findValue_92 : decode cX10_findValue 92 = .ok (.ldiv, 1) := by decide +kernel
theorem dX10_findValue_93 : decode cX10_findValue 93 = .ok (.putfield 161, 3) := by decide +kernel
theorem dX10_findValue_96 : decode cX10_findValue 96 = .ok (.iinc 3 (-1), 3) := by decide +kernel
theorem dX10_findValue_99 : decode cX10_findValue 99 = .ok (.goto (-80), 3) := by decide +kernel
theorem dX10_findValue_102 : decode cX10_findValue 102 = .ok (.return_, 1) := by decide +kernel
set_option maxRecDepth 20000 in
theorem ggX10_value_X10_noSystem : GoodIn wsX10_value wsX10_noSystem := goodIn_r _ [6, 7, 8, 5, 9] (by decide +kernel) (by decide +kernel)
set_option maxRecDepth 20000 in
theorem gX10_value_X10_noSystem : GoodIn wsX10_value (va_wsS RX10 70 yX10_noSystem wsX10_noSystem) := goodIn_app (goodIn_of _ (by decide +kernel)) ggX10_value_X10_noSystem
set_option maxRecDepth 20000 in
theorem ggX10_value_X10_noRow : GoodIn wsX10_value wsX10_noRow := goodIn_r _ [12, 7, 8, 5, 9] (by decide +kernel) (by decide +kernel)
set_option maxRecDepth 20000 in
theorem gX10_value_X10_noRow : GoodIn wsX10_value (va_wsS RX10 154 yX10_noRow wsX10_noRow) := goodIn_app (goodIn_of _ (by decide +kernel)) ggX10_value_X10_noRow
set_option maxRecDepth 20000 in
theorem ggX10_value_X10_lost : GoodIn wsX10_value wsX10_lost := goodIn_r _ [15, 16] (by decide +kernel) (by decide +kernel)
set_option maxRecDepth 20000 in
theorem gX10_value_X10_lost : GoodIn wsX10_value (va_wsS RX10 164 yX10_lost wsX10_lost) := goodIn_app (goodIn_of _ (by decide +kernel)) ggX10_value_X10_lost
set_option maxRecDepth 20000 in
theorem ggX10_value_X10_findValue : GoodIn wsX10_value wsX10_findValue := goodIn_r _ [20, 2, 1, 21, 22, 23, 24, 25, 26, 5, 27, 28, 29, 30, 31, 32, 33, 34, 35, 36, 37, 38, 39, 40, 41, 42, 43, 44, 45, 46, 47, 48] (by decide +kernel) (by decide +kernel)
set_option maxRecDepth 20000 in
theorem gX10_value_X10_findValue : GoodIn wsX10_value (wsV RX10 168 RX10 yX10_findValue wsX10_findValue) := goodIn_app (goodIn_of _ (by decide +kernel)) ggX10_value_X10_findValue
theorem dX10_value_0 : decode cX10_value 0 = .ok (.iload_n 1, 1) := by decide +kernel
theorem dX10_value_1 : decode cX10_value 1 = .ok (.invokestatic 70, 3) := by decide +kernel
theorem dX10_value_4 : decode cX10_value 4 = .ok (.ifCond .ne 10, 3) := by decide +kernel
theorem dX10_value_7 : decode cX10_value 7 = .ok (.iload_n 2, 1) := by decide +kernel
theorem dX10_value_8 : decode cX10_value 8 = .ok (.invokestatic 154, 3) := by decide +kernel
theorem dX10_value_11 : decode cX10_value 11 = .ok (.ifCond .eq 7, 3) := by decide +kernel
theorem dX10_value_14 : decode cX10_value 14 = .ok (.invokestatic 164, 3) := by decide +kernel
theorem dX10_value_17 : decode cX10_value 17 = .ok (.lreturn, 1) := by decide +kernel
theorem dX10_value_18 : decode cX10_value 18 = .ok (.aload_n 0, 1) := by decide +kernel
theorem dX10_value_19 : decode cX10_value 19 = .ok (.iload_n 1, 1) := by decide +kernel
theorem dX10_value_20 : decode cX10_value 20 = .ok (.iload_n 2, 1) := by decide +kernel
theorem dX10_value_21 : decode cX10_value 21 = .ok (.invokevirtual 168, 3) := by decide +kernel
theorem dX10_value_24 : decode cX10_value 24 = .ok (.iload_n 3, 1) := by decide +kernel
theorem dX10_value_25 : decode cX10_value 25 = .ok (.ifCond .eq 10, 3) := by decide +kernel
theorem dX10_value_28 : decode cX10_value 28 = .ok (.aload_n 0, 1) := by decide +kernel
theorem dX10_value_29 : decode cX10_value 29 = .ok (.getfield 161, 3) := by decide +kernel
theorem dX10_value_32 : decode cX10_value 32 = .ok (.goto 7, 3) := by decide +kernel
theorem dX10_value_35 : decode cX10_value 35 = .ok (.aload_n 0, 1) := by decide +kernel
theorem dX10_value_36 : decode cX10_value 36 = .ok (.getfield 157, 3) := by decide +kernel
theorem dX10_value_39 : decode cX10_value 39 = .ok (.lreturn, 1) := by decide +kernel
theorem dX10_down_0 : decode cX10_down 0 = .ok (.lload_n 0, 1) := by decide +kernel
theorem dX10_down_1 : decode cX10_down 1 = .ok (.lload_n 2, 1) := by decide +kernel
theorem dX10_down_2 : decode cX10_down 2 = .ok (.ldiv, 1) := by decide +kernel
theorem dX10_down_3 : decode cX10_down 3 = .ok (.lstore 4, 2) := by decide +kernel
theorem dX10_down_5 : decode cX10_down 5 = .ok (.lload 4, 2) := by decide +kernel
theorem dX10_down_7 : decode cX10_down 7 = .ok (.lload_n 2, 1) := by decide +kernel
theorem dX10_down_8 : decode cX10_down 8 = .ok (.lmul, 1) := by decide +kernel
theorem dX10_down_9 : decode cX10_down 9 = .ok (.lload_n 0, 1) := by decide +kernel
theorem dX10_down_10 : decode cX10_down 10 = .ok (.lcmp, 1) := by decide +kernel
theorem dX10_down_11 : decode cX10_down 11 = .ok (.ifCond .le 10, 3) := by decide +kernel
theorem dX10_down_14 : decode cX10_down 14 = .ok (.lload 4, 2) := by decide +kernel
theorem dX10_down_16 : decode cX10_down 16 = .ok (.lconst 1, 1) := by decide +kernel
theorem dX10_down_17 : decode cX10_down 17 = .ok (.lsub, 1) := by decide +kernel
theorem dX10_down_18 : decode cX10_down 18 = .ok (.goto 5, 3) := by decide +kernel
theorem dX10_down_21 : decode cX10_down 21 = .ok (.lload 4, 2) := by decide +kernel
theorem dX10_down_23 : decode cX10_down 23 = .ok (.lreturn, 1) := by decide +kernel
set_option maxRecDepth 20000 in
theorem ggX10_compared_X10_down : GoodIn wsX10_compared wsX10_down := goodIn_r _ [4] (by decide +kernel) (by decide +kernel)
set_option maxRecDepth 20000 in
theorem gX10_compared_X10_down : GoodIn wsX10_compared (va_wsS RX10 172 yX10_down wsX10_down) := goodIn_app (goodIn_of _ (by decide +kernel)) ggX10_compared_X10_down
theorem dX10_compared_0 : decode cX10_compared 0 = .ok (.lload_n 0, 1) := by decide +kernel
theorem dX10_compared_1 : decode cX10_compared 1 = .ok (.lstore 8, 2) := by decide +kernel
theorem dX10_compared_3 : decode cX10_compared 3 = .ok (.lload_n 2, 1) := by decide +kernel
theorem dX10_compared_4 : decode cX10_compared 4 = .ok (.lstore 10, 2) := by decide +kernel
theorem dX10_compared_6 : decode cX10_compared 6 = .ok (.lload 4, 2) := by decide +kernel
theorem dX10_compared_8 : decode cX10_compared 8 = .ok (.lstore 12, 2) := by decide +kernel
theorem dX10_compared_10 : decode cX10_compared 10 = .ok (.lload 6, 2) := by decide +kernel
theorem dX10_compared_12 : decode cX10_compared 12 = .ok (.lstore 14, 2) := by decide +kernel
theorem dX10_compared_14 : decode cX10_compared 14 = .ok (.iconst 0, 1) := by decide +kernel
theorem dX10_compared_15 : decode cX10_compared 15 = .ok (.istore 16, 2) := by decide +kernel
theorem dX10_compared_17 : decode cX10_compared 17 = .ok (.iconst (-1), 1) := by decide +kernel
theorem dX10_compared_18 : decode cX10_compared 18 = .ok (.istore 17, 2) := by decide +kernel
theorem dX10_compared_20 : decode cX10_compared 20 = .ok (.iload 17, 2) := by decide +kernel
theorem dX10_compared_22 : decode cX10_compared 22 = .ok (.ifCond .ge 161, 3) := by decide +kernel
theorem dX10_compared_25 : decode cX10_compared 25 = .ok (.lload 8, 2) := by decide +kernel
theorem dX10_compared_27 : decode cX10_compared 27 = .ok (.lload 10, 2) := by decide +kernel
theorem dX10_compared_29 : decode cX10_compared 29 = .ok (.invokestatic 172, 3) := by decide +kernel
theorem dX10_compared_32 : decode cX10_compared 32 = .ok (.lstore 18, 2) := by decide +kernel
theorem dX10_compared_34 : decode cX10_compared 34 = .ok (.lload 12, 2) := by decide +kernel
theorem dX10_compared_36 : decode cX10_compared 36 = .ok (.lload 14, 2) := by decide +kernel
theorem dX10_compared_38 : decode cX10_compared 38 = .ok (.invokestatic 172, 3) := by decide +kernel
theorem dX10_compared_41 : decode cX10_compared 41 = .ok (.lstore 20, 2) := by decide +kernel
theorem dX10_compared_43 : decode cX10_compared 43 = .ok (.lload 8, 2) := by decide +kernel
theorem dX10_compared_45 : decode cX10_compared 45 = .ok (.lload 18, 2) := by decide +kernel
theorem dX10_compared_47 : decode cX10_compared 47 = .ok (.lload 10, 2) := by decide +kernel
theorem dX10_compared_49 : decode cX10_compared 49 = .ok (.lmul, 1) := by decide +kernel
theorem dX10_compared_50 : decode cX10_compared 50 = .ok (.lsub, 1) := by decide +kernel
theorem dX10_compared_51 : decode cX10_compared 51 = .ok (.lstore 22, 2) := by decide +kernel
theorem dX10_compared_53 : decode cX10_compared 53 = .ok (.lload 12, 2) := by decide +kernel
theorem dX10_compared_55 : decode cX10_compared 55 = .ok (.lload 20, 2) := by decide +kernel
theorem dX10_compared_57 : decode cX10_compared 57 = .ok (.lload 14, 2) := by decide +kernel
theorem dX10_compared_59 : decode cX10_compared 59 = .ok (.lmul, 1) := by decide +kernel
theorem dX10_compared_60 : decode cX10_compared 60 = .ok (.lsub, 1) := by decide +kernel
theorem dX10_compared_61 : decode cX10_compared 61 = .ok (.lstore 24, 2) := by decide +kernel
theorem dX10_compared_63 : decode cX10_compared 63 = .ok (.lload 18, 2) := by decide +kernel
theorem dX10_compared_65 : decode cX10_compared 65 = .ok (.lload 20, 2) := by decide +kernel
theorem dX10_compared_67 : decode cX10_compared 67 = .ok (.lcmp, 1) := by decide +kernel
theorem dX10_compared_68 : decode cX10_compared 68 = .ok (.ifCond .eq 31, 3) := by decide +kernel
theorem dX10_compared_71 : decode cX10_compared 71 = .ok (.lload 18, 2) := by decide +kernel
theorem dX10_compared_73 : decode cX10_compared 73 = .ok (.lload 20, 2) := by decide +kernel
theorem dX10_compared_75 : decode cX10_compared 75 = .ok (.lcmp, 1) := by decide +kernel
theorem dX10_compared_76 : decode cX10_compared 76 = .ok (.ifCond .ge 7, 3) := by decide +kernel
theorem dX10_compared_79 : decode cX10_compared 79 = .ok (.iconst 1, 1) := by decide +kernel
theorem dX10_compared_80 : decode cX10_compared 80 = .ok (.goto 4, 3) := by decide +kernel
theorem dX10_compared_83 : decode cX10_compared 83 = .ok (.iconst 0, 1) := by decide +kernel
theorem dX10_compared_84 : decode cX10_compared 84 = .ok (.iload 16, 2) := by decide +kernel
theorem dX10_compared_86 : decode cX10_compared 86 = .ok (.if_icmp .ne 7, 3) := by decide +kernel
theorem dX10_compared_89 : decode cX10_compared 89 = .ok (.iconst 2, 1) := by decide +kernel
theorem dX10_compared_90 : decode cX10_compared 90 = .ok (.goto 4, 3) := by decide +kernel
theorem dX10_compared_93 : decode cX10_compared 93 = .ok (.iconst 0, 1) := by decide +kernel
theorem dX10_compared_94 : decode cX10_compared 94 = .ok (.istore 17, 2) := by decide +kernel
theorem dX10_compared_96 : decode cX10_compared 96 = .ok (.goto 84, 3) := by decide +kernel
theorem dX10_compared_99 : decode cX10_compared 99 = .ok (.lload 22, 2) := by decide +kernel
theorem dX10_compared_101 : decode cX10_compared 101 = .ok (.lconst 0, 1) := by decide +kernel
theorem dX10_compared_102 : decode cX10_compared 102 = .ok (.lcmp, 1) := by decide +kernel
theorem dX10_compared_103 : decode cX10_compared 103 = .ok (.ifCond .eq 10, 3) := by decide +kernel
theorem dX10_compared_106 : decode cX10_compared 106 = .ok (.lload 24, 2) := by decide +kernel
theorem dX10_compared_108 : decode cX10_compared 108 = .ok (.lconst 0, 1) := by decide +kernel
theorem dX10_compared_109 : decode cX10_compared 109 = .ok (.lcmp, 1) := by decide +kernel
theorem dX10_compared_110 : decode cX10_compared 110 = .ok (.ifCond .ne 42, 3) := by decide +kernel
theorem dX10_compared_113 : decode cX10_compared 113 = .ok (.lload 22, 2) := by decide +kernel
theorem dX10_compared_115 : decode cX10_compared 115 = .ok (.lload 24, 2) := by decide +kernel
theorem dX10_compared_117 : decode cX10_compared 117 = .ok (.lcmp, 1) := by decide +kernel
theorem dX10_compared_118 : decode cX10_compared 118 = .ok (.ifCond .ne 7, 3) := by decide +kernel
theorem dX10_compared_121 : decode cX10_compared 121 = .ok (.iconst 1, 1) := by decide +kernel
theorem dX10_compared_122 : decode cX10_compared 122 = .ok (.goto 25, 3) := by decide +kernel
theorem dX10_compared_125 : decode cX10_compared 125 = .ok (.lload 22, 2) := by decide +kernel
theorem dX10_compared_127 : decode cX10_compared 127 = .ok (.lconst 0, 1) := by decide +kernel
theorem dX10_compared_128 : decode cX10_compared 128 = .ok (.lcmp, 1) := by decide +kernel
theorem dX10_compared_129 : decode cX10_compared 129 = .ok (.ifCond .ne 7, 3) := by decide +kernel
theorem dX10_compared_132 : decode cX10_compared 132 = .ok (.iconst 1, 1) := by decide +kernel
theorem dX10_compared_133 : decode cX10_compared 133 = .ok (.goto 4, 3) := by decide +kernel
theorem dX10_compared_136 : decode cX10_compared 136 = .ok (.iconst 0, 1) := by decide +kernel
theorem dX10_compared_137 : decode cX10_compared 137 = .ok (.iload 16, 2) := by decide +kernel
theorem dX10_compared_139 : decode cX10_compared 139 = .ok (.if_icmp .ne 7, 3) := by decide +kernel
theorem dX10_compared_142 : decode cX10_compared 142 = .ok (.iconst 2, 1) := by decide +kernel
theorem dX10_compared_143 : decode cX10_compared 143 = .ok (.goto 4, 3) := by decide +kernel
theorem dX10_compared_146 : decode cX10_compared 146 = .ok (.iconst 0, 1) := by decide +kernel
theorem dX10_compared_147 : decode cX10_compared 147 = .ok (.istore 17, 2) := by decide +kernel
theorem dX10_compared_149 : decode cX10_compared 149 = .ok (.goto 31, 3) := by decide +kernel
theorem dX10_compared_152 : decode cX10_compared 152 = .ok (.lload 10, 2) := by decide +kernel
theorem dX10_compared_154 : decode cX10_compared 154 = .ok (.lstore 8, 2) := by decide +kernel
theorem dX10_compared_156 : decode cX10_compared 156 = .ok (.lload 22, 2) := by decide +kernel
theorem dX10_compared_158 : decode cX10_compared 158 = .ok (.lstore 10, 2) := by decide +kernel
theorem dX10_compared_160 : decode cX10_compared 160 = .ok (.lload 14, 2) := by decide +kernel
theorem dX10_compared_162 : decode cX10_compared 162 = .ok (.lstore 12, 2) := by decide +kernel
theorem dX10_compared_164 : decode cX10_compared 164 = .ok (.lload 24, 2) := by decide +kernel
theorem dX10_compared_166 : decode cX10_compared 166 = .ok (.lstore 14, 2) := by decide +kernel
theorem dX10_compared_168 : decode cX10_compared 168 = .ok (.iload 16, 2) := by decide +kernel
theorem dX10_compared_170 : decode cX10_compared 170 = .ok (.ifCond .ne 7, 3) := by decide +kernel
theorem dX10_compared_173 : decode cX10_compared 173 = .ok (.iconst 1, 1) := by decide +kernel
theorem dX10_compared_174 : decode cX10_compared 174 = .ok (.goto 4, 3) := by decide +kernel
theorem dX10_compared_177 : decode cX10_compared 177 = .ok (.iconst 0, 1) := by decide +kernel
theorem dX10_compared_178 : decode cX10_compared 178 = .ok (.istore 16, 2) := by decide +kernel
theorem dX10_compared_180 : decode cX10_compared 180 = .ok (.goto (-160), 3) := by decide +kernel
theorem dX10_compared_183 : decode cX10_compared 183 = .ok (.iload 17, 2) := by decide +kernel
theorem dX10_compared_185 : decode cX10_compared 185 = .ok (.ireturn, 1) := by decide +kernel
set_option maxRecDepth 20000 in
theorem ggX10_compare_X10_noSystem : GoodIn wsX10_compare wsX10_noSystem := goodIn_r _ [7, 8, 9, 6, 10] (by decide +kernel) (by decide +kernel)
set_option maxRecDepth 20000 in
theorem gX10_compare_X10_noSystem : GoodIn wsX10_compare (va_wsS RX10 70 yX10_noSystem wsX10_noSystem) := goodIn_app (goodIn_of _ (by decide +kernel)) ggX10_compare_X10_noSystem
set_option maxRecDepth 20000 in
theorem ggX10_compare_X10_noRow : GoodIn wsX10_compare wsX10_noRow := goodIn_r _ [13, 8, 9, 6, 10] (by decide +kernel) (by decide +kernel)
set_option maxRecDepth 20000 in
theorem gX10_compare_X10_noRow : GoodIn wsX10_compare (va_wsS RX10 154 yX10_noRow wsX10_noRow) := goodIn_app (goodIn_of _ (by decide +kernel)) ggX10_compare_X10_noRow
set_option maxRecDepth 20000 in
theorem ggX10_compare_X10_findValue : GoodIn wsX10_compare wsX10_findValue := goodIn_r _ [17, 2, 3, 18, 19, 20, 21, 22, 23, 6, 24, 31, 32, 33, 34, 35, 36, 37, 38, 39, 40, 41, 42, 43, 44, 45, 46, 47, 48, 49, 50, 51] (by decide +kernel) (by decide +kernel)
set_option maxRecDepth 20000 in
theorem gX10_compare_X10_findValue : GoodIn wsX10_compare (wsV RX10 168 RX10 yX10_findValue wsX10_findValue) := goodIn_app (goodIn_of _ (by decide +kernel)) ggX10_compare_X10_findValue
set_option maxRecDepth 20000 in
theorem ggX10_compare_X10_compared : GoodIn wsX10_compare wsX10_compared := goodIn_r _ [27, 28, 29, 6, 30] (by decide +kernel) (by decide +kernel)
set_option maxRecDepth 20000 in
theorem gX10_compare_X10_compared : GoodIn wsX10_compare (va_wsS RX10 175 yX10_compared wsX10_compared) := goodIn_app (goodIn_of _ (by decide +kernel)) ggX10_compare_X10_compared
theorem dX10_compare_0 : decode cX10_compare 0 = .ok (.iload_n 1, 1) := by decide +kernel
theorem dX10_compare_1 : decode cX10_compare 1 = .ok (.invokestatic 70, 3) := by decide +kernel
theorem dX10_compare_4 : decode cX10_compare 4 = .ok (.ifCond .ne 25, 3) := by decide +kernel
theorem dX10_compare_7 : decode cX10_compare 7 = .ok (.iload_n 3, 1) := by decide +kernel
theorem dX10_compare_8 : decode cX10_compare 8 = .ok (.invokestatic 70, 3) := by decide +kernel
theorem dX10_compare_11 : decode cX10_compare 11 = .ok (.ifCond .ne 18, 3) := by decide +kernel
theorem dX10_compare_14 : decode cX10_compare 14 = .ok (.iload_n 2, 1) := by decide +kernel
theorem dX10_compare_15 : decode cX10_compare 15 = .ok (.invokestatic 154, 3) := by decide +kernel
theorem dX10_compare_18 : decode cX10_compare 18 = .ok (.ifCond .ne 11, 3) := by decide +kernel
theorem dX10_compare_21 : decode cX10_compare 21 = .ok (.iload 4, 2) := by decide +kernel
theorem dX10_compare_23 : decode cX10_compare 23 = .ok (.invokestatic 154, 3) := by decide +kernel
theorem dX10_compare_26 : decode cX10_compare 26 = .ok (.ifCond .eq 6, 3) := by decide +kernel
theorem dX10_compare_29 : decode cX10_compare 29 = .ok (.ldc 74, 2) := by decide +kernel
theorem dX10_compare_31 : decode cX10_compare 31 = .ok (.ireturn, 1) := by decide +kernel
theorem dX10_compare_32 : decode cX10_compare 32 = .ok (.aload_n 0, 1) := by decide +kernel
theorem dX10_compare_33 : decode cX10_compare 33 = .ok (.iload_n 1, 1) := by decide +kernel
theorem dX10_compare_34 : decode cX10_compare 34 = .ok (.iload_n 2, 1) := by decide +kernel
theorem dX10_compare_35 : decode cX10_compare 35 = .ok (.invokevirtual 168, 3) := by decide +kernel
theorem dX10_compare_38 : decode cX10_compare 38 = .ok (.aload_n 0, 1) := by decide +kernel
theorem dX10_compare_39 : decode cX10_compare 39 = .ok (.getfield 157, 3) := by decide +kernel
theorem dX10_compare_42 : decode cX10_compare 42 = .ok (.lstore 5, 2) := by decide +kernel
theorem dX10_compare_44 : decode cX10_compare 44 = .ok (.aload_n 0, 1) := by decide +kernel
theorem dX10_compare_45 : decode cX10_compare 45 = .ok (.getfield 161, 3) := by decide +kernel
theorem dX10_compare_48 : decode cX10_compare 48 = .ok (.lstore 7, 2) := by decide +kernel
theorem dX10_compare_50 : decode cX10_compare 50 = .ok (.aload_n 0, 1) := by decide +kernel
theorem dX10_compare_51 : decode cX10_compare 51 = .ok (.iload_n 3, 1) := by decide +kernel
theorem dX10_compare_52 : decode cX10_compare 52 = .ok (.iload 4, 2) := by decide +kernel
theorem dX10_compare_54 : decode cX10_compare 54 = .ok (.invokevirtual 168, 3) := by decide +kernel
theorem dX10_compare_57 : decode cX10_compare 57 = .ok (.lload 5, 2) := by decide +kernel
theorem dX10_compare_59 : decode cX10_compare 59 = .ok (.lload 7, 2) := by decide +kernel
theorem dX10_compare_61 : decode cX10_compare 61 = .ok (.aload_n 0, 1) := by decide +kernel
theorem dX10_compare_62 : decode cX10_compare 62 = .ok (.getfield 157, 3) := by decide +kernel
theorem dX10_compare_65 : decode cX10_compare 65 = .ok (.aload_n 0, 1) := by decide +kernel
theorem dX10_compare_66 : decode cX10_compare 66 = .ok (.getfield 161, 3) := by decide +kernel
theorem dX10_compare_69 : decode cX10_compare 69 = .ok (.invokestatic 175, 3) := by decide +kernel
theorem dX10_compare_72 : decode cX10_compare 72 = .ok (.ireturn, 1) := by decide +kernel
set_option maxRecDepth 20000 in
theorem ggX10_expand_X10_finite : GoodIn wsX10_expand wsX10_finite := goodIn_r _ [9, 10, 11, 12, 13, 14, 8, 15, 16, 17, 18, 19, 20, 21, 22, 23, 24, 25, 26, 27, 28, 29, 30, 31, 32, 33, 34, 35, 36, 37, 38, 39, 40, 41, 42, 43, 44, 45, 46, 47, 48, 49, 50, 51, 52, 53, 54, 55, 56, 57, 58, 59, 60, 61, 62, 63] (by decide +kernel) (by decide +kernel)
set_option maxRecDepth 20000 in
theorem gX10_expand_X10_finite : GoodIn wsX10_expand (wsV RX10 127 RX10 yX10_finite wsX10_finite) := goodIn_app (goodIn_of _ (by decide +kernel)) ggX10_expand_X10_finite
set_option maxRecDepth 20000 in
theorem ggX10_expand_X10_stepDigit : GoodIn wsX10_expand wsX10_stepDigit := goodIn_r _ [42, 26, 21, 38, 16, 27, 28, 8, 29, 43, 44, 45, 46, 47, 48, 49, 50, 51, 52, 53, 54, 55, 56, 57, 58, 59, 60, 61, 62, 63] (by decide +kernel) (by decide +kernel)
set_option maxRecDepth 20000 in
theorem gX10_expand_X10_stepDigit : GoodIn wsX10_expand (wsV RX10 99 RX10 yX10_stepDigit wsX10_stepDigit) := goodIn_app (goodIn_of _ (by decide +kernel)) ggX10_expand_X10_stepDigit
set_option maxRecDepth 20000 in
theorem ggX10_expand_X10_step : GoodIn wsX10_expand wsX10_step := goodIn_r _ [37, 38, 26, 39, 40, 41, 8, 42, 21, 16, 27, 28, 29, 43, 44, 45, 46, 47, 48, 49, 50, 51, 52, 53, 54, 55, 56, 57, 58, 59, 60, 61, 62, 63] (by decide +kernel) (by decide +kernel)
set_option maxRecDepth 20000 in
theorem gX10_expand_X10_step : GoodIn wsX10_expand (wsV RX10 103 RX10 yX10_step wsX10_step) := goodIn_app (goodIn_of _ (by decide +kernel)) ggX10_expand_X10_step
theorem dX10_expand_0 : decode cX10_expand 0 = .ok (.aload_n 0, 1) := by decide +kernel
theorem dX10_expand_1 : decode cX10_expand 1 = .ok (.iload_n 1, 1) := by decide +kernel
theorem dX10_expand_2 : decode cX10_expand 2 = .ok (.iload_n 2, 1) := by decide +kernel
theorem dX10_expand_3 : decode cX10_expand 3 = .ok (.iconst 1, 1) := by decide +kernel
theorem dX10_expand_4 : decode cX10_expand 4 = .ok (.invokevirtual 127, 3) := by decide +kernel
theorem dX10_expand_7 : decode cX10_expand 7 = .ok (.istore 4, 2) := by decide +kernel
theorem dX10_expand_9 : decode cX10_expand 9 = .ok (.iload 4, 2) := by decide +kernel
theorem dX10_expand_11 : decode cX10_expand 11 = .ok (.ifCond .ge 6, 3) := by decide +kernel
theorem dX10_expand_14 : decode cX10_expand 14 = .ok (.ldc 84, 2) := by decide +kernel
theorem dX10_expand_16 : decode cX10_expand 16 = .ok (.ireturn, 1) := by decide +kernel
theorem dX10_expand_17 : decode cX10_expand 17 = .ok (.iload 4, 2) := by decide +kernel
theorem dX10_expand_19 : decode cX10_expand 19 = .ok (.bipush 12, 2) := by decide +kernel
theorem dX10_expand_21 : decode cX10_expand 21 = .ok (.if_icmp .le 6, 3) := by decide +kernel
theorem dX10_expand_24 : decode cX10_expand 24 = .ok (.ldc 85, 2) := by decide +kernel
theorem dX10_expand_26 : decode cX10_expand 26 = .ok (.ireturn, 1) := by decide +kernel
theorem dX10_expand_27 : decode cX10_expand 27 = .ok (.iload_n 2, 1) := by decide +kernel
theorem dX10_expand_28 : decode cX10_expand 28 = .ok (.istore 5, 2) := by decide +kernel
theorem dX10_expand_30 : decode cX10_expand 30 = .ok (.iconst 0, 1) := by decide +kernel
theorem dX10_expand_31 : decode cX10_expand 31 = .ok (.istore 6, 2) := by decide +kernel
theorem dX10_expand_33 : decode cX10_expand 33 = .ok (.iload 6, 2) := by decide +kernel
theorem dX10_expand_35 : decode cX10_expand 35 = .ok (.iload 4, 2) := by decide +kernel
theorem dX10_expand_37 : decode cX10_expand 37 = .ok (.if_icmp .ge 39, 3) := by decide +kernel
theorem dX10_expand_40 : decode cX10_expand 40 = .ok (.aload_n 0, 1) := by decide +kernel
theorem dX10_expand_41 : decode cX10_expand 41 = .ok (.getfield 43, 3) := by decide +kernel
theorem dX10_expand_44 : decode cX10_expand 44 = .ok (.bipush 12, 2) := by decide +kernel
theorem dX10_expand_46 : decode cX10_expand 46 = .ok (.iload_n 3, 1) := by decide +kernel
theorem dX10_expand_47 : decode cX10_expand 47 = .ok (.imul, 1) := by decide +kernel
theorem dX10_expand_48 : decode cX10_expand 48 = .ok (.iload 6, 2) := by decide +kernel
theorem dX10_expand_50 : decode cX10_expand 50 = .ok (.iadd, 1) := by decide +kernel
theorem dX10_expand_51 : decode cX10_expand 51 = .ok (.aload_n 0, 1) := by decide +kernel
theorem dX10_expand_52 : decode cX10_expand 52 = .ok (.iload_n 1, 1) := by decide +kernel
theorem dX10_expand_53 : decode cX10_expand 53 = .ok (.iload 5, 2) := by decide +kernel
theorem dX10_expand_55 : decode cX10_expand 55 = .ok (.iconst 1, 1) := by decide +kernel
theorem dX10_expand_56 : decode cX10_expand 56 = .ok (.invokevirtual 99, 3) := by decide +kernel
theorem dX10_expand_59 : decode cX10_expand 59 = .ok (.iastore, 1) := by decide +kernel
theorem dX10_expand_60 : decode cX10_expand 60 = .ok (.aload_n 0, 1) := by decide +kernel
theorem dX10_expand_61 : decode cX10_expand 61 = .ok (.iload_n 1, 1) := by decide +kernel
theorem dX10_expand_62 : decode cX10_expand 62 = .ok (.iload 5, 2) := by decide +kernel
theorem dX10_expand_64 : decode cX10_expand 64 = .ok (.iconst 1, 1) := by decide +kernel
theorem dX10_expand_65 : decode cX10_expand 65 = .ok (.invokevirtual 103, 3) := by decide +kernel
theorem dX10_expand_68 : decode cX10_expand 68 = .ok (.istore 5, 2) := by decide +kernel
theorem dX10_expand_70 : decode cX10_expand 70 = .ok (.iinc 6 1, 3) := by decide +kernel
theorem dX10_expand_73 : decode cX10_expand 73 = .ok (.goto (-40), 3) := by decide +kernel
theorem dX10_expand_76 : decode cX10_expand 76 = .ok (.aload_n 0, 1) := by decide +kernel
theorem dX10_expand_77 : decode cX10_expand 77 = .ok (.getfield 40, 3) := by decide +kernel
theorem dX10_expand_80 : decode cX10_expand 80 = .ok (.iload_n 3, 1) := by decide +kernel
theorem dX10_expand_81 : decode cX10_expand 81 = .ok (.iload 4, 2) := by decide +kernel
theorem dX10_expand_83 : decode cX10_expand 83 = .ok (.iastore, 1) := by decide +kernel
theorem dX10_expand_84 : decode cX10_expand 84 = .ok (.iload 4, 2) := by decide +kernel
theorem dX10_expand_86 : decode cX10_expand 86 = .ok (.ireturn, 1) := by decide +kernel
set_option maxRecDepth 20000 in
theorem ggX10_load_X10_noSystem : GoodIn wsX10_load wsX10_noSystem := goodIn_r _ [9, 10, 11, 8, 12] (by decide +kernel) (by decide +kernel)
set_option maxRecDepth 20000 in
theorem gX10_load_X10_noSystem : GoodIn wsX10_load (va_wsS RX10 70 yX10_noSystem wsX10_noSystem) := goodIn_app (goodIn_of _ (by decide +kernel)) ggX10_load_X10_noSystem
set_option maxRecDepth 20000 in
theorem ggX10_load_X10_noRow : GoodIn wsX10_load wsX10_noRow := goodIn_r _ [15, 10, 11, 8, 12] (by decide +kernel) (by decide +kernel)
set_option maxRecDepth 20000 in
theorem gX10_load_X10_noRow : GoodIn wsX10_load (va_wsS RX10 154 yX10_noRow wsX10_noRow) := goodIn_app (goodIn_of _ (by decide +kernel)) ggX10_load_X10_noRow
set_option maxRecDepth 20000 in
theorem ggX10_load_X10_in : GoodIn wsX10_load wsX10_in := goodIn_r _ [12] (by decide +kernel) (by decide +kernel)
set_option maxRecDepth 20000 in
theorem gX10_load_X10_in : GoodIn wsX10_load (va_wsS RX10 62 yX10_in wsX10_in) := goodIn_app (goodIn_of _ (by decide +kernel)) ggX10_load_X10_in
set_option maxRecDepth 20000 in
theorem ggX10_load_X10_isComplete : GoodIn wsX10_load wsX10_isComplete := goodIn_r _ [19, 20, 21, 22, 8, 23, 24, 25, 26, 27, 28, 29, 30, 31, 32, 33, 65, 66, 67, 68, 69, 70, 71, 72, 73, 74, 75, 76, 77, 78, 79, 80, 81, 82, 83, 84, 85] (by decide +kernel) (by decide +kernel)
set_option maxRecDepth 20000 in
theorem gX10_load_X10_isComplete : GoodIn wsX10_load (wsV RX10 96 RX10 yX10_isComplete wsX10_isComplete) := goodIn_app (goodIn_of _ (by decide +kernel)) ggX10_load_X10_isComplete
set_option maxRecDepth 20000 in
theorem ggX10_load_X10_expand : GoodIn wsX10_load wsX10_expand := goodIn_r _ [37, 38, 39, 40, 41, 42, 43, 44, 8, 45, 46, 47, 48, 49, 50, 51, 29, 24, 25, 26, 27, 28, 30, 31, 32, 33, 20, 21, 22, 23, 52, 53, 54, 55, 56, 57, 58, 59, 60, 61, 62, 63, 64, 65, 66, 67, 68, 69, 70, 71, 72, 73, 74, 75, 76, 77, 78, 79, 80, 81, 82, 83, 84, 85] (by decide +kernel) (by decide +kernel)
set_option maxRecDepth 20000 in
theorem gX10_load_X10_expand : GoodIn wsX10_load (wsV RX10 179 RX10 yX10_expand wsX10_expand) := goodIn_app (goodIn_of _ (by decide +kernel)) ggX10_load_X10_expand
theorem dX10_load_0 : decode cX10_load 0 = .ok (.iload_n 1, 1) := by decide +kernel
theorem dX10_load_1 : decode cX10_load 1 = .ok (.invokestatic 70, 3) := by decide +kernel
theorem dX10_load_4 : decode cX10_load 4 = .ok (.ifCond .ne 10, 3) := by decide +kernel
theorem dX10_load_7 : decode cX10_load 7 = .ok (.iload_n 3, 1) := by decide +kernel
theorem dX10_load_8 : decode cX10_load 8 = .ok (.invokestatic 154, 3) := by decide +kernel
theorem dX10_load_11 : decode cX10_load 11 = .ok (.ifCond .eq 6, 3) := by decide +kernel
theorem dX10_load_14 : decode cX10_load 14 = .ok (.ldc 74, 2) := by decide +kernel
theorem dX10_load_16 : decode cX10_load 16 = .ok (.ireturn, 1) := by decide +kernel
theorem dX10_load_17 : decode cX10_load 17 = .ok (.iload_n 2, 1) := by decide +kernel
theorem dX10_load_18 : decode cX10_load 18 = .ok (.ldc 113, 2) := by decide +kernel
theorem dX10_load_20 : decode cX10_load 20 = .ok (.ldc 114, 2) := by decide +kernel
theorem dX10_load_22 : decode cX10_load 22 = .ok (.invokestatic 62, 3) := by decide +kernel
theorem dX10_load_25 : decode cX10_load 25 = .ok (.ifCond .ne 6, 3) := by decide +kernel
theorem dX10_load_28 : decode cX10_load 28 = .ok (.ldc 79, 2) := by decide +kernel
theorem dX10_load_30 : decode cX10_load 30 = .ok (.ireturn, 1) := by decide +kernel
theorem dX10_load_31 : decode cX10_load 31 = .ok (.aload_n 0, 1) := by decide +kernel
theorem dX10_load_32 : decode cX10_load 32 = .ok (.iload_n 1, 1) := by decide +kernel
theorem dX10_load_33 : decode cX10_load 33 = .ok (.invokevirtual 96, 3) := by decide +kernel
theorem dX10_load_36 : decode cX10_load 36 = .ok (.ifCond .eq 13, 3) := by decide +kernel
theorem dX10_load_39 : decode cX10_load 39 = .ok (.aload_n 0, 1) := by decide +kernel
theorem dX10_load_40 : decode cX10_load 40 = .ok (.iload_n 1, 1) := by decide +kernel
theorem dX10_load_41 : decode cX10_load 41 = .ok (.iload_n 2, 1) := by decide +kernel
theorem dX10_load_42 : decode cX10_load 42 = .ok (.iload_n 3, 1) := by decide +kernel
theorem dX10_load_43 : decode cX10_load 43 = .ok (.invokevirtual 179, 3) := by decide +kernel
theorem dX10_load_46 : decode cX10_load 46 = .ok (.goto 5, 3) := by decide +kernel
theorem dX10_load_49 : decode cX10_load 49 = .ok (.ldc 116, 2) := by decide +kernel
theorem dX10_load_51 : decode cX10_load 51 = .ok (.ireturn, 1) := by decide +kernel
set_option maxRecDepth 20000 in
theorem ggX10_carryDigit_X10_residue : GoodIn wsX10_carryDigit wsX10_residue := goodIn_r _ [6, 7, 8, 9, 5, 10, 21, 22, 23, 24, 25, 26, 27, 28, 29, 30, 31, 32, 33, 34, 35, 36, 37, 38, 39, 40, 41] (by decide +kernel) (by decide +kernel)
set_option maxRecDepth 20000 in
theorem gX10_carryDigit_X10_residue : GoodIn wsX10_carryDigit (wsV RX10 86 RX10 yX10_residue wsX10_residue) := goodIn_app (goodIn_of _ (by decide +kernel)) ggX10_carryDigit_X10_residue
set_option maxRecDepth 20000 in
theorem ggX10_carryDigit_X10_chosenDigit : GoodIn wsX10_carryDigit wsX10_chosenDigit := goodIn_r _ [14, 15, 16, 17, 18, 5, 19, 20, 2, 3, 4, 6, 7, 8, 9, 10, 21, 22, 23, 24, 25, 26, 27, 28, 29, 30, 31, 32, 33, 34, 35, 36, 37, 38, 39, 40, 41] (by decide +kernel) (by decide +kernel)
set_option maxRecDepth 20000 in
theorem gX10_carryDigit_X10_chosenDigit : GoodIn wsX10_carryDigit (wsV RX10 93 RX10 yX10_chosenDigit wsX10_chosenDigit) := goodIn_app (goodIn_of _ (by decide +kernel)) ggX10_carryDigit_X10_chosenDigit
theorem dX10_carryDigit_0 : decode cX10_carryDigit 0 = .ok (.aload_n 0, 1) := by decide +kernel
theorem dX10_carryDigit_1 : decode cX10_carryDigit 1 = .ok (.iload_n 1, 1) := by decide +kernel
theorem dX10_carryDigit_2 : decode cX10_carryDigit 2 = .ok (.aload_n 0, 1) := by decide +kernel
theorem dX10_carryDigit_3 : decode cX10_carryDigit 3 = .ok (.iload_n 1, 1) := by decide +kernel
theorem dX10_carryDigit_4 : decode cX10_carryDigit 4 = .ok (.iload_n 3, 1) := by decide +kernel
theorem dX10_carryDigit_5 : decode cX10_carryDigit 5 = .ok (.aload_n 0, 1) := by decide +kernel
theorem dX10_carryDigit_6 : decode cX10_carryDigit 6 = .ok (.getfield 13, 3) := by decide +kernel
theorem dX10_carryDigit_9 : decode cX10_carryDigit 9 = .ok (.iload_n 1, 1) := by decide +kernel
theorem dX10_carryDigit_10 : decode cX10_carryDigit 10 = .ok (.iaload, 1) := by decide +kernel
theorem dX10_carryDigit_11 : decode cX10_carryDigit 11 = .ok (.iload_n 2, 1) := by decide +kernel
theorem dX10_carryDigit_12 : decode cX10_carryDigit 12 = .ok (.imul, 1) := by decide +kernel
theorem dX10_carryDigit_13 : decode cX10_carryDigit 13 = .ok (.iadd, 1) := by decide +kernel
theorem dX10_carryDigit_14 : decode cX10_carryDigit 14 = .ok (.invokevirtual 86, 3) := by decide +kernel
theorem dX10_carryDigit_17 : decode cX10_carryDigit 17 = .ok (.invokevirtual 93, 3) := by decide +kernel
theorem dX10_carryDigit_20 : decode cX10_carryDigit 20 = .ok (.ireturn, 1) := by decide +kernel
set_option maxRecDepth 20000 in
theorem ggX10_carried_X10_carryDigit : GoodIn wsX10_carried wsX10_carryDigit := goodIn_r _ [7, 1, 8, 9, 10, 6, 11, 2, 12, 13, 14, 15, 16, 17, 18, 19, 20, 21, 22, 23, 24, 25, 26, 27, 28, 29, 30, 31, 32, 33, 34, 35, 36, 37, 38, 39, 40, 41, 42, 43, 44, 45] (by decide +kernel) (by decide +kernel)
set_option maxRecDepth 20000 in
theorem gX10_carried_X10_carryDigit : GoodIn wsX10_carried (wsV RX10 182 RX10 yX10_carryDigit wsX10_carryDigit) := goodIn_app (goodIn_of _ (by decide +kernel)) ggX10_carried_X10_carryDigit
theorem dX10_carried_0 : decode cX10_carried 0 = .ok (.iload_n 3, 1) := by decide +kernel
theorem dX10_carried_1 : decode cX10_carried 1 = .ok (.aload_n 0, 1) := by decide +kernel
theorem dX10_carried_2 : decode cX10_carried 2 = .ok (.getfield 13, 3) := by decide +kernel
theorem dX10_carried_5 : decode cX10_carried 5 = .ok (.iload_n 1, 1) := by decide +kernel
theorem dX10_carried_6 : decode cX10_carried 6 = .ok (.iaload, 1) := by decide +kernel
theorem dX10_carried_7 : decode cX10_carried 7 = .ok (.iload_n 2, 1) := by decide +kernel
theorem dX10_carried_8 : decode cX10_carried 8 = .ok (.imul, 1) := by decide +kernel
theorem dX10_carried_9 : decode cX10_carried 9 = .ok (.iadd, 1) := by decide +kernel
theorem dX10_carried_10 : decode cX10_carried 10 = .ok (.aload_n 0, 1) := by decide +kernel
theorem dX10_carried_11 : decode cX10_carried 11 = .ok (.iload_n 1, 1) := by decide +kernel
theorem dX10_carried_12 : decode cX10_carried 12 = .ok (.iload_n 2, 1) := by decide +kernel
theorem dX10_carried_13 : decode cX10_carried 13 = .ok (.iload_n 3, 1) := by decide +kernel
theorem dX10_carried_14 : decode cX10_carried 14 = .ok (.invokevirtual 182, 3) := by decide +kernel
theorem dX10_carried_17 : decode cX10_carried 17 = .ok (.isub, 1) := by decide +kernel
theorem dX10_carried_18 : decode cX10_carried 18 = .ok (.aload_n 0, 1) := by decide +kernel
theorem dX10_carried_19 : decode cX10_carried 19 = .ok (.getfield 7, 3) := by decide +kernel
theorem dX10_carried_22 : decode cX10_carried 22 = .ok (.iload_n 1, 1) := by decide +kernel
theorem dX10_carried_23 : decode cX10_carried 23 = .ok (.iaload, 1) := by decide +kernel
theorem dX10_carried_24 : decode cX10_carried 24 = .ok (.idiv, 1) := by decide +kernel
theorem dX10_carried_25 : decode cX10_carried 25 = .ok (.ireturn, 1) := by decide +kernel
set_option maxRecDepth 20000 in
theorem ggX10_compute_X10_chosenDigit : GoodIn wsX10_compute wsX10_chosenDigit := goodIn_r _ [11, 12, 13, 14, 15, 10, 16, 17, 18, 19, 20, 21, 22, 23, 24, 25, 35, 36, 37, 38, 39, 40, 41, 42, 43, 44, 45, 46, 47, 48, 49, 50, 51, 52, 53, 54, 55] (by decide +kernel) (by decide +kernel)
set_option maxRecDepth 20000 in
theorem gX10_compute_X10_chosenDigit : GoodIn wsX10_compute (wsV RX10 93 RX10 yX10_chosenDigit wsX10_chosenDigit) := goodIn_app (goodIn_of _ (by decide +kernel)) ggX10_compute_X10_chosenDigit
set_option maxRecDepth 20000 in
theorem ggX10_compute_X10_carryDigit : GoodIn wsX10_compute wsX10_carryDigit := goodIn_r _ [29, 30, 18, 19, 20, 10, 21, 22, 23, 24, 25, 7, 8, 9, 11, 12, 13, 14, 15, 16, 17, 35, 36, 37, 38, 39, 40, 41, 42, 43, 44, 45, 46, 47, 48, 49, 50, 51, 52, 53, 54, 55] (by decide +kernel) (by decide +kernel)
set_option maxRecDepth 20000 in
theorem gX10_compute_X10_carryDigit : GoodIn wsX10_compute (wsV RX10 182 RX10 yX10_carryDigit wsX10_carryDigit) := goodIn_app (goodIn_of _ (by decide +kernel)) ggX10_compute_X10_carryDigit
set_option maxRecDepth 20000 in
theorem ggX10_compute_X10_carried : GoodIn wsX10_compute wsX10_carried := goodIn_r _ [34, 30, 22, 26, 27, 28, 10, 29, 18, 19, 20, 21, 23, 24, 25, 7, 8, 9, 11, 12, 13, 14, 15, 16, 17, 35, 36, 37, 38, 39, 40, 41, 42, 43, 44, 45, 46, 47, 48, 49, 50, 51, 52, 53, 54, 55] (by decide +kernel) (by decide +kernel)
set_option maxRecDepth 20000 in
theorem gX10_compute_X10_carried : GoodIn wsX10_compute (wsV RX10 188 RX10 yX10_carried wsX10_carried) := goodIn_app (goodIn_of _ (by decide +kernel)) ggX10_compute_X10_carried
theorem dX10_compute_0 : decode cX10_compute 0 = .ok (.iconst 0, 1) := by decide +kernel
theorem dX10_compute_1 : decode cX10_compute 1 = .ok (.istore_n 3, 1) := by decide +kernel
theorem dX10_compute_2 : decode cX10_compute 2 = .ok (.iconst 0, 1) := by decide +kernel
theorem dX10_compute_3 : decode cX10_compute 3 = .ok (.istore 4, 2) := by decide +kernel
theorem dX10_compute_5 : decode cX10_compute 5 = .ok (.aload_n 0, 1) := by decide +kernel
theorem dX10_compute_6 : decode cX10_compute 6 = .ok (.iload_n 1, 1) := by decide +kernel
theorem dX10_compute_7 : decode cX10_compute 7 = .ok (.iconst 0, 1) := by decide +kernel
theorem dX10_compute_8 : decode cX10_compute 8 = .ok (.invokevirtual 93, 3) := by decide +kernel
theorem dX10_compute_11 : decode cX10_compute 11 = .ok (.ifCond .ne 7, 3) := by decide +kernel
theorem dX10_compute_14 : decode cX10_compute 14 = .ok (.iconst 1, 1) := by decide +kernel
theorem dX10_compute_15 : decode cX10_compute 15 = .ok (.goto 4, 3) := by decide +kernel
theorem dX10_compute_18 : decode cX10_compute 18 = .ok (.iconst 0, 1) := by decide +kernel
theorem dX10_compute_19 : decode cX10_compute 19 = .ok (.istore 5, 2) := by decide +kernel
theorem dX10_compute_21 : decode cX10_compute 21 = .ok (.iload 4, 2) := by decide +kernel
theorem dX10_compute_23 : decode cX10_compute 23 = .ok (.aload_n 0, 1) := by decide +kernel
theorem dX10_compute_24 : decode cX10_compute 24 = .ok (.getfield 185, 3) := by decide +kernel
theorem dX10_compute_27 : decode cX10_compute 27 = .ok (.if_icmp .lt 12, 3) := by decide +kernel
theorem dX10_compute_30 : decode cX10_compute 30 = .ok (.iload_n 3, 1) := by decide +kernel
theorem dX10_compute_31 : decode cX10_compute 31 = .ok (.ifCond .ne 8, 3) := by decide +kernel
theorem dX10_compute_34 : decode cX10_compute 34 = .ok (.iload 5, 2) := by decide +kernel
theorem dX10_compute_36 : decode cX10_compute 36 = .ok (.ifCond .ne 65, 3) := by decide +kernel
theorem dX10_compute_39 : decode cX10_compute 39 = .ok (.iload 4, 2) := by decide +kernel
theorem dX10_compute_41 : decode cX10_compute 41 = .ok (.bipush 12, 2) := by decide +kernel
theorem dX10_compute_43 : decode cX10_compute 43 = .ok (.if_icmp .ne 6, 3) := by decide +kernel
theorem dX10_compute_46 : decode cX10_compute 46 = .ok (.ldc 85, 2) := by decide +kernel
theorem dX10_compute_48 : decode cX10_compute 48 = .ok (.ireturn, 1) := by decide +kernel
theorem dX10_compute_49 : decode cX10_compute 49 = .ok (.iload 4, 2) := by decide +kernel
theorem dX10_compute_51 : decode cX10_compute 51 = .ok (.aload_n 0, 1) := by decide +kernel
theorem dX10_compute_52 : decode cX10_compute 52 = .ok (.getfield 185, 3) := by decide +kernel
theorem dX10_compute_55 : decode cX10_compute 55 = .ok (.if_icmp .ge 13, 3) := by decide +kernel
theorem dX10_compute_58 : decode cX10_compute 58 = .ok (.aload_n 0, 1) := by decide +kernel
theorem dX10_compute_59 : decode cX10_compute 59 = .ok (.getfield 46, 3) := by decide +kernel
theorem dX10_compute_62 : decode cX10_compute 62 = .ok (.iload 4, 2) := by decide +kernel
theorem dX10_compute_64 : decode cX10_compute 64 = .ok (.iaload, 1) := by decide +kernel
theorem dX10_compute_65 : decode cX10_compute 65 = .ok (.goto 4, 3) := by decide +kernel
theorem dX10_compute_68 : decode cX10_compute 68 = .ok (.iconst 0, 1) := by decide +kernel
theorem dX10_compute_69 : decode cX10_compute 69 = .ok (.istore 6, 2) := by decide +kernel
theorem dX10_compute_71 : decode cX10_compute 71 = .ok (.aload_n 0, 1) := by decide +kernel
theorem dX10_compute_72 : decode cX10_compute 72 = .ok (.getfield 49, 3) := by decide +kernel
theorem dX10_compute_75 : decode cX10_compute 75 = .ok (.iload 4, 2) := by decide +kernel
theorem dX10_compute_77 : decode cX10_compute 77 = .ok (.aload_n 0, 1) := by decide +kernel
theorem dX10_compute_78 : decode cX10_compute 78 = .ok (.iload_n 1, 1) := by decide +kernel
theorem dX10_compute_79 : decode cX10_compute 79 = .ok (.iload_n 3, 1) := by decide +kernel
theorem dX10_compute_80 : decode cX10_compute 80 = .ok (.iload 6, 2) := by decide +kernel
theorem dX10_compute_82 : decode cX10_compute 82 = .ok (.invokevirtual 182, 3) := by decide +kernel
theorem dX10_compute_85 : decode cX10_compute 85 = .ok (.iastore, 1) := by decide +kernel
theorem dX10_compute_86 : decode cX10_compute 86 = .ok (.aload_n 0, 1) := by decide +kernel
theorem dX10_compute_87 : decode cX10_compute 87 = .ok (.iload_n 1, 1) := by decide +kernel
theorem dX10_compute_88 : decode cX10_compute 88 = .ok (.iload_n 3, 1) := by decide +kernel
theorem dX10_compute_89 : decode cX10_compute 89 = .ok (.iload 6, 2) := by decide +kernel
theorem dX10_compute_91 : decode cX10_compute 91 = .ok (.invokevirtual 188, 3) := by decide +kernel
theorem dX10_compute_94 : decode cX10_compute 94 = .ok (.istore_n 3, 1) := by decide +kernel
theorem dX10_compute_95 : decode cX10_compute 95 = .ok (.iinc 4 1, 3) := by decide +kernel
theorem dX10_compute_98 : decode cX10_compute 98 = .ok (.goto (-77), 3) := by decide +kernel
theorem dX10_compute_101 : decode cX10_compute 101 = .ok (.iload 4, 2) := by decide +kernel
theorem dX10_compute_103 : decode cX10_compute 103 = .ok (.ifCond .le 21, 3) := by decide +kernel
theorem dX10_compute_106 : decode cX10_compute 106 = .ok (.aload_n 0, 1) := by decide +kernel
theorem dX10_compute_107 : decode cX10_compute 107 = .ok (.getfield 49, 3) := by decide +kernel
theorem dX10_compute_110 : decode cX10_compute 110 = .ok (.iload 4, 2) := by decide +kernel
theorem dX10_compute_112 : decode cX10_compute 112 = .ok (.iconst 1, 1) := by decide +kernel
theorem dX10_compute_113 : decode cX10_compute 113 = .ok (.isub, 1) := by decide +kernel
theorem dX10_compute_114 : decode cX10_compute 114 = .ok (.iaload, 1) := by decide +kernel
theorem dX10_compute_115 : decode cX10_compute 115 = .ok (.ifCond .ne 9, 3) := by decide +kernel
theorem dX10_compute_118 : decode cX10_compute 118 = .ok (.iinc 4 (-1), 3) := by decide +kernel
theorem dX10_compute_121 : decode cX10_compute 121 = .ok (.goto (-20), 3) := by decide +kernel
theorem dX10_compute_124 : decode cX10_compute 124 = .ok (.iconst 0, 1) := by decide +kernel
theorem dX10_compute_125 : decode cX10_compute 125 = .ok (.istore 6, 2) := by decide +kernel
theorem dX10_compute_127 : decode cX10_compute 127 = .ok (.iload 6, 2) := by decide +kernel
theorem dX10_compute_129 : decode cX10_compute 129 = .ok (.iload 4, 2) := by decide +kernel
theorem dX10_compute_131 : decode cX10_compute 131 = .ok (.if_icmp .ge 28, 3) := by decide +kernel
theorem dX10_compute_134 : decode cX10_compute 134 = .ok (.aload_n 0, 1) := by decide +kernel
theorem dX10_compute_135 : decode cX10_compute 135 = .ok (.getfield 43, 3) := by decide +kernel
theorem dX10_compute_138 : decode cX10_compute 138 = .ok (.bipush 12, 2) := by decide +kernel
theorem dX10_compute_140 : decode cX10_compute 140 = .ok (.iload_n 2, 1) := by decide +kernel
theorem dX10_compute_141 : decode cX10_compute 141 = .ok (.imul, 1) := by decide +kernel
theorem dX10_compute_142 : decode cX10_compute 142 = .ok (.iload 6, 2) := by decide +kernel
theorem dX10_compute_144 : decode cX10_compute 144 = .ok (.iadd, 1) := by decide +kernel
theorem dX10_compute_145 : decode cX10_compute 145 = .ok (.aload_n 0, 1) := by decide +kernel
theorem dX10_compute_146 : decode cX10_compute 146 = .ok (.getfield 49, 3) := by decide +kernel
theorem dX10_compute_149 : decode cX10_compute 149 = .ok (.iload 6, 2) := by decide +kernel
theorem dX10_compute_151 : decode cX10_compute 151 = .ok (.iaload, 1) := by decide +kernel
theorem dX10_compute_152 : decode cX10_compute 152 = .ok (.iastore, 1) := by decide +kernel
theorem dX10_compute_153 : decode cX10_compute 153 = .ok (.iinc 6 1, 3) := by decide +kernel
theorem dX10_compute_156 : decode cX10_compute 156 = .ok (.goto (-29), 3) := by decide +kernel
theorem dX10_compute_159 : decode cX10_compute 159 = .ok (.aload_n 0, 1) := by decide +kernel
theorem dX10_compute_160 : decode cX10_compute 160 = .ok (.getfield 40, 3) := by decide +kernel
theorem dX10_compute_163 : decode cX10_compute 163 = .ok (.iload_n 2, 1) := by decide +kernel
theorem dX10_compute_164 : decode cX10_compute 164 = .ok (.iload 4, 2) := by decide +kernel
theorem dX10_compute_166 : decode cX10_compute 166 = .ok (.iastore, 1) := by decide +kernel
theorem dX10_compute_167 : decode cX10_compute 167 = .ok (.iload 4, 2) := by decide +kernel
theorem dX10_compute_169 : decode cX10_compute 169 = .ok (.ireturn, 1) := by decide +kernel
set_option maxRecDepth 20000 in
theorem ggX10_add_X10_noSystem : GoodIn wsX10_add wsX10_noSystem := goodIn_r _ [10, 11, 12, 9, 13] (by decide +kernel) (by decide +kernel)
set_option maxRecDepth 20000 in
theorem gX10_add_X10_noSystem : GoodIn wsX10_add (va_wsS RX10 70 yX10_noSystem wsX10_noSystem) := goodIn_app (goodIn_of _ (by decide +kernel)) ggX10_add_X10_noSystem
set_option maxRecDepth 20000 in
theorem ggX10_add_X10_noRow : GoodIn wsX10_add wsX10_noRow := goodIn_r _ [16, 11, 12, 9, 13] (by decide +kernel) (by decide +kernel)
set_option maxRecDepth 20000 in
theorem gX10_add_X10_noRow : GoodIn wsX10_add (va_wsS RX10 154 yX10_noRow wsX10_noRow) := goodIn_app (goodIn_of _ (by decide +kernel)) ggX10_add_X10_noRow
set_option maxRecDepth 20000 in
theorem ggX10_add_X10_isComplete : GoodIn wsX10_add wsX10_isComplete := goodIn_r _ [20, 21, 22, 23, 9, 24, 25, 26, 27, 28, 29, 30, 31, 32, 33, 34, 54, 55, 56, 57, 58, 59, 60, 61, 62, 63, 64, 65, 66, 67, 68, 69, 70, 71, 72, 73, 74] (by decide +kernel) (by decide +kernel)
set_option maxRecDepth 20000 in
theorem gX10_add_X10_isComplete : GoodIn wsX10_add (wsV RX10 96 RX10 yX10_isComplete wsX10_isComplete) := goodIn_app (goodIn_of _ (by decide +kernel)) ggX10_add_X10_isComplete
set_option maxRecDepth 20000 in
theorem ggX10_add_X10_compute : GoodIn wsX10_add wsX10_compute := goodIn_r _ [38, 4, 39, 5, 40, 6, 3, 41, 42, 43, 9, 44, 30, 25, 26, 27, 28, 29, 31, 32, 33, 34, 21, 22, 23, 24, 45, 46, 47, 48, 49, 50, 51, 52, 53, 54, 55, 56, 57, 58, 59, 60, 61, 62, 63, 64, 65, 66, 67, 68, 69, 70, 71, 72, 73, 74] (by decide +kernel) (by decide +kernel)
set_option maxRecDepth 20000 in
theorem gX10_add_X10_compute : GoodIn wsX10_add (wsV RX10 191 RX10 yX10_compute wsX10_compute) := goodIn_app (goodIn_of _ (by decide +kernel)) ggX10_add_X10_compute
theorem dX10_add_0 : decode cX10_add 0 = .ok (.iload_n 1, 1) := by decide +kernel
theorem dX10_add_1 : decode cX10_add 1 = .ok (.invokestatic 70, 3) := by decide +kernel
theorem dX10_add_4 : decode cX10_add 4 = .ok (.ifCond .ne 25, 3) := by decide +kernel
theorem dX10_add_7 : decode cX10_add 7 = .ok (.iload_n 2, 1) := by decide +kernel
theorem dX10_add_8 : decode cX10_add 8 = .ok (.invokestatic 154, 3) := by decide +kernel
theorem dX10_add_11 : decode cX10_add 11 = .ok (.ifCond .ne 18, 3) := by decide +kernel
theorem dX10_add_14 : decode cX10_add 14 = .ok (.iload_n 3, 1) := by decide +kernel
theorem dX10_add_15 : decode cX10_add 15 = .ok (.invokestatic 154, 3) := by decide +kernel
theorem dX10_add_18 : decode cX10_add 18 = .ok (.ifCond .ne 11, 3) := by decide +kernel
theorem dX10_add_21 : decode cX10_add 21 = .ok (.iload 4, 2) := by decide +kernel
theorem dX10_add_23 : decode cX10_add 23 = .ok (.invokestatic 154, 3) := by decide +kernel
theorem dX10_add_26 : decode cX10_add 26 = .ok (.ifCond .eq 6, 3) := by decide +kernel
theorem dX10_add_29 : decode cX10_add 29 = .ok (.ldc 74, 2) := by decide +kernel
theorem dX10_add_31 : decode cX10_add 31 = .ok (.ireturn, 1) := by decide +kernel
theorem dX10_add_32 : decode cX10_add 32 = .ok (.aload_n 0, 1) := by decide +kernel
theorem dX10_add_33 : decode cX10_add 33 = .ok (.iload_n 1, 1) := by decide +kernel
theorem dX10_add_34 : decode cX10_add 34 = .ok (.invokevirtual 96, 3) := by decide +kernel
theorem dX10_add_37 : decode cX10_add 37 = .ok (.ifCond .ne 6, 3) := by decide +kernel
theorem dX10_add_40 : decode cX10_add 40 = .ok (.ldc 116, 2) := by decide +kernel
theorem dX10_add_42 : decode cX10_add 42 = .ok (.ireturn, 1) := by decide +kernel
theorem dX10_add_43 : decode cX10_add 43 = .ok (.aload_n 0, 1) := by decide +kernel
theorem dX10_add_44 : decode cX10_add 44 = .ok (.aload_n 0, 1) := by decide +kernel
theorem dX10_add_45 : decode cX10_add 45 = .ok (.getfield 40, 3) := by decide +kernel
theorem dX10_add_48 : decode cX10_add 48 = .ok (.iload_n 2, 1) := by decide +kernel
theorem dX10_add_49 : decode cX10_add 49 = .ok (.iaload, 1) := by decide +kernel
theorem dX10_add_50 : decode cX10_add 50 = .ok (.aload_n 0, 1) := by decide +kernel
theorem dX10_add_51 : decode cX10_add 51 = .ok (.getfield 40, 3) := by decide +kernel
theorem dX10_add_54 : decode cX10_add 54 = .ok (.iload_n 3, 1) := by decide +kernel
theorem dX10_add_55 : decode cX10_add 55 = .ok (.iaload, 1) := by decide +kernel
theorem dX10_add_56 : decode cX10_add 56 = .ok (.if_icmp .le 12, 3) := by decide +kernel
theorem dX10_add_59 : decode cX10_add 59 = .ok (.aload_n 0, 1) := by decide +kernel
theorem dX10_add_60 : decode cX10_add 60 = .ok (.getfield 40, 3) := by decide +kernel
theorem dX10_add_63 : decode cX10_add 63 = .ok (.iload_n 2, 1) := by decide +kernel
theorem dX10_add_64 : decode cX10_add 64 = .ok (.iaload, 1) := by decide +kernel
theorem dX10_add_65 : decode cX10_add 65 = .ok (.goto 9, 3) := by decide +kernel
theorem dX10_add_68 : decode cX10_add 68 = .ok (.aload_n 0, 1) := by decide +kernel
theorem dX10_add_69 : decode cX10_add 69 = .ok (.getfield 40, 3) := by decide +kernel
theorem dX10_add_72 : decode cX10_add 72 = .ok (.iload_n 3, 1) := by decide +kernel
theorem dX10_add_73 : decode cX10_add 73 = .ok (.iaload, 1) := by decide +kernel
theorem dX10_add_74 : decode cX10_add 74 = .ok (.putfield 185, 3) := by decide +kernel
theorem dX10_add_77 : decode cX10_add 77 = .ok (.iconst 0, 1) := by decide +kernel
theorem dX10_add_78 : decode cX10_add 78 = .ok (.istore 5, 2) := by decide +kernel
theorem dX10_add_80 : decode cX10_add 80 = .ok (.iload 5, 2) := by decide +kernel
theorem dX10_add_82 : decode cX10_add 82 = .ok (.aload_n 0, 1) := by decide +kernel
theorem dX10_add_83 : decode cX10_add 83 = .ok (.getfield 185, 3) := by decide +kernel
theorem dX10_add_86 : decode cX10_add 86 = .ok (.if_icmp .ge 71, 3) := by decide +kernel
theorem dX10_add_89 : decode cX10_add 89 = .ok (.aload_n 0, 1) := by decide +kernel
theorem dX10_add_90 : decode cX10_add 90 = .ok (.getfield 46, 3) := by decide +kernel
theorem dX10_add_93 : decode cX10_add 93 = .ok (.iload 5, 2) := by decide +kernel
theorem dX10_add_95 : decode cX10_add 95 = .ok (.iload 5, 2) := by decide +kernel
theorem dX10_add_97 : decode cX10_add 97 = .ok (.aload_n 0, 1) := by decide +kernel
theorem dX10_add_98 : decode cX10_add 98 = .ok (.getfield 40, 3) := by decide +kernel
theorem dX10_add_101 : decode cX10_add 101 = .ok (.iload_n 2, 1) := by decide +kernel
theorem dX10_add_102 : decode cX10_add 102 = .ok (.iaload, 1) := by decide +kernel
theorem dX10_add_103 : decode cX10_add 103 = .ok (.if_icmp .ge 18, 3) := by decide +kernel
theorem dX10_add_106 : decode cX10_add 106 = .ok (.aload_n 0, 1) := by decide +kernel
theorem dX10_add_107 : decode cX10_add 107 = .ok (.getfield 43, 3) := by decide +kernel
theorem dX10_add_110 : decode cX10_add 110 = .ok (.bipush 12, 2) := by decide +kernel
theorem dX10_add_112 : decode cX10_add 112 = .ok (.iload_n 2, 1) := by decide +kernel
theorem dX10_add_113 : decode cX10_add 113 = .ok (.imul, 1) := by decide +kernel
theorem dX10_add_114 : decode cX10_add 114 = .ok (.iload 5, 2) := by decide +kernel
theorem dX10_add_116 : decode cX10_add 116 = .ok (.iadd, 1) := by decide +kernel
theorem dX10_add_117 : decode cX10_add 117 = .ok (.iaload, 1) := by decide +kernel
theorem dX10_add_118 : decode cX10_add 118 = .ok (.goto 4, 3) := by decide +kernel
theorem dX10_add_121 : decode cX10_add 121 = .ok (.iconst 0, 1) := by decide +kernel
theorem dX10_add_122 : decode cX10_add 122 = .ok (.iload 5, 2) := by decide +kernel
theorem dX10_add_124 : decode cX10_add 124 = .ok (.aload_n 0, 1) := by decide +kernel
theorem dX10_add_125 : decode cX10_add 125 = .ok (.getfield 40, 3) := by decide +kernel
theorem dX10_add_128 : decode cX10_add 128 = .ok (.iload_n 3, 1) := by decide +kernel
theorem dX10_add_129 : decode cX10_add 129 = .ok (.iaload, 1) := by decide +kernel
theorem dX10_add_130 : decode cX10_add 130 = .ok (.if_icmp .ge 18, 3) := by decide +kernel
theorem dX10_add_133 : decode cX10_add 133 = .ok (.aload_n 0, 1) := by decide +kernel
theorem dX10_add_134 : decode cX10_add 134 = .ok (.getfield 43, 3) := by decide +kernel
theorem dX10_add_137 : decode cX10_add 137 = .ok (.bipush 12, 2) := by decide +kernel
theorem dX10_add_139 : decode cX10_add 139 = .ok (.iload_n 3, 1) := by decide +kernel
theorem dX10_add_140 : decode cX10_add 140 = .ok (.imul, 1) := by decide +kernel
theorem dX10_add_141 : decode cX10_add 141 = .ok (.iload 5, 2) := by decide +kernel
theorem dX10_add_143 : decode cX10_add 143 = .ok (.iadd, 1) := by decide +kernel
theorem dX10_add_144 : decode cX10_add 144 = .ok (.iaload, 1) := by decide +kernel
theorem dX10_add_145 : decode cX10_add 145 = .ok (.goto 4, 3) := by decide +kernel
theorem dX10_add_148 : decode cX10_add 148 = .ok (.iconst 0, 1) := by decide +kernel
theorem dX10_add_149 : decode cX10_add 149 = .ok (.iadd, 1) := by decide +kernel
theorem dX10_add_150 : decode cX10_add 150 = .ok (.iastore, 1) := by decide +kernel
theorem dX10_add_151 : decode cX10_add 151 = .ok (.iinc 5 1, 3) := by decide +kernel
theorem dX10_add_154 : decode cX10_add 154 = .ok (.goto (-74), 3) := by decide +kernel
theorem dX10_add_157 : decode cX10_add 157 = .ok (.aload_n 0, 1) := by decide +kernel
theorem dX10_add_158 : decode cX10_add 158 = .ok (.iload_n 1, 1) := by decide +kernel
theorem dX10_add_159 : decode cX10_add 159 = .ok (.iload 4, 2) := by decide +kernel
theorem dX10_add_161 : decode cX10_add 161 = .ok (.invokevirtual 191, 3) := by decide +kernel
theorem dX10_add_164 : decode cX10_add 164 = .ok (.ireturn, 1) := by decide +kernel
set_option maxRecDepth 20000 in
theorem ggX10_multiply_X10_noSystem : GoodIn wsX10_multiply wsX10_noSystem := goodIn_r _ [11, 12, 13, 10, 14] (by decide +kernel) (by decide +kernel)
set_option maxRecDepth 20000 in
theorem gX10_multiply_X10_noSystem : GoodIn wsX10_multiply (va_wsS RX10 70 yX10_noSystem wsX10_noSystem) := goodIn_app (goodIn_of _ (by decide +kernel)) ggX10_multiply_X10_noSystem
set_option maxRecDepth 20000 in
theorem ggX10_multiply_X10_noRow : GoodIn wsX10_multiply wsX10_noRow := goodIn_r _ [17, 12, 13, 10, 14] (by decide +kernel) (by decide +kernel)
set_option maxRecDepth 20000 in
theorem gX10_multiply_X10_noRow : GoodIn wsX10_multiply (va_wsS RX10 154 yX10_noRow wsX10_noRow) := goodIn_app (goodIn_of _ (by decide +kernel)) ggX10_multiply_X10_noRow
set_option maxRecDepth 20000 in
theorem ggX10_multiply_X10_in : GoodIn wsX10_multiply wsX10_in := goodIn_r _ [14] (by decide +kernel) (by decide +kernel)
set_option maxRecDepth 20000 in
theorem gX10_multiply_X10_in : GoodIn wsX10_multiply (va_wsS RX10 62 yX10_in wsX10_in) := goodIn_app (goodIn_of _ (by decide +kernel)) ggX10_multiply_X10_in
set_option maxRecDepth 20000 in
theorem ggX10_multiply_X10_isComplete : GoodIn wsX10_multiply wsX10_isComplete := goodIn_r _ [21, 22, 23, 24, 10, 25, 26, 27, 28, 29, 30, 31, 32, 33, 34, 35, 55, 56, 57, 58, 59, 60, 61, 62, 63, 64, 65, 66, 67, 68, 69, 70, 71, 72, 73, 74, 75] (by decide +kernel) (by decide +kernel)
set_option maxRecDepth 20000 in
theorem gX10_multiply_X10_isComplete : GoodIn wsX10_multiply (wsV RX10 96 RX10 yX10_isComplete wsX10_isComplete) := goodIn_app (goodIn_of _ (by decide +kernel)) ggX10_multiply_X10_isComplete
set_option maxRecDepth 20000 in
theorem ggX10_multiply_X10_compute : GoodIn wsX10_multiply wsX10_compute := goodIn_r _ [39, 5, 40, 6, 41, 7, 4, 42, 43, 44, 10, 45, 31, 26, 27, 28, 29, 30, 32, 33, 34, 35, 22, 23, 24, 25, 46, 47, 48, 49, 50, 51, 52, 53, 54, 55, 56, 57, 58, 59, 60, 61, 62, 63, 64, 65, 66, 67, 68, 69, 70, 71, 72, 73, 74, 75] (by decide +kernel) (by decide +kernel)
set_option maxRecDepth 20000 in
theorem gX10_multiply_X10_compute : GoodIn wsX10_multiply (wsV RX10 191 RX10 yX10_compute wsX10_compute) := goodIn_app (goodIn_of _ (by decide +kernel)) ggX10_multiply_X10_compute
theorem dX10_multiply_0 : decode cX10_multiply 0 = .ok (.iload_n 1, 1) := by decide +kernel
theorem dX10_multiply_1 : decode cX10_multiply 1 = .ok (.invokestatic 70, 3) := by decide +kernel
theorem dX10_multiply_4 : decode cX10_multiply 4 = .ok (.ifCond .ne 18, 3) := by decide +kernel
theorem dX10_multiply_7 : decode cX10_multiply 7 = .ok (.iload_n 2, 1) := by decide +kernel
theorem dX10_multiply_8 : decode cX10_multiply 8 = .ok (.invokestatic 154, 3) := by decide +kernel
theorem dX10_multiply_11 : decode cX10_multiply 11 = .ok (.ifCond .ne 11, 3) := by decide +kernel
theorem dX10_multiply_14 : decode cX10_multiply 14 = .ok (.iload 4, 2) := by decide +kernel
theorem dX10_multiply_16 : decode cX10_multiply 16 = .ok (.invokestatic 154, 3) := by decide +kernel
theorem dX10_multiply_19 : decode cX10_multiply 19 = .ok (.ifCond .eq 6, 3) := by decide +kernel
theorem dX10_multiply_22 : decode cX10_multiply 22 = .ok (.ldc 74, 2) := by decide +kernel
theorem dX10_multiply_24 : decode cX10_multiply 24 = .ok (.ireturn, 1) := by decide +kernel
theorem dX10_multiply_25 : decode cX10_multiply 25 = .ok (.iload_n 3, 1) := by decide +kernel
theorem dX10_multiply_26 : decode cX10_multiply 26 = .ok (.bipush (-100), 2) := by decide +kernel
theorem dX10_multiply_28 : decode cX10_multiply 28 = .ok (.bipush 100, 2) := by decide +kernel
theorem dX10_multiply_30 : decode cX10_multiply 30 = .ok (.invokestatic 62, 3) := by decide +kernel
theorem dX10_multiply_33 : decode cX10_multiply 33 = .ok (.ifCond .ne 6, 3) := by decide +kernel
theorem dX10_multiply_36 : decode cX10_multiply 36 = .ok (.ldc 79, 2) := by decide +kernel
theorem dX10_multiply_38 : decode cX10_multiply 38 = .ok (.ireturn, 1) := by decide +kernel
theorem dX10_multiply_39 : decode cX10_multiply 39 = .ok (.aload_n 0, 1) := by decide +kernel
theorem dX10_multiply_40 : decode cX10_multiply 40 = .ok (.iload_n 1, 1) := by decide +kernel
theorem dX10_multiply_41 : decode cX10_multiply 41 = .ok (.invokevirtual 96, 3) := by decide +kernel
theorem dX10_multiply_44 : decode cX10_multiply 44 = .ok (.ifCond .ne 6, 3) := by decide +kernel
theorem dX10_multiply_47 : decode cX10_multiply 47 = .ok (.ldc 116, 2) := by decide +kernel
theorem dX10_multiply_49 : decode cX10_multiply 49 = .ok (.ireturn, 1) := by decide +kernel
theorem dX10_multiply_50 : decode cX10_multiply 50 = .ok (.aload_n 0, 1) := by decide +kernel
theorem dX10_multiply_51 : decode cX10_multiply 51 = .ok (.aload_n 0, 1) := by decide +kernel
theorem dX10_multiply_52 : decode cX10_multiply 52 = .ok (.getfield 40, 3) := by decide +kernel
theorem dX10_multiply_55 : decode cX10_multiply 55 = .ok (.iload_n 2, 1) := by decide +kernel
theorem dX10_multiply_56 : decode cX10_multiply 56 = .ok (.iaload, 1) := by decide +kernel
theorem dX10_multiply_57 : decode cX10_multiply 57 = .ok (.putfield 185, 3) := by decide +kernel
theorem dX10_multiply_60 : decode cX10_multiply 60 = .ok (.iconst 0, 1) := by decide +kernel
theorem dX10_multiply_61 : decode cX10_multiply 61 = .ok (.istore 5, 2) := by decide +kernel
theorem dX10_multiply_63 : decode cX10_multiply 63 = .ok (.iload 5, 2) := by decide +kernel
theorem dX10_multiply_65 : decode cX10_multiply 65 = .ok (.aload_n 0, 1) := by decide +kernel
theorem dX10_multiply_66 : decode cX10_multiply 66 = .ok (.getfield 185, 3) := by decide +kernel
theorem dX10_multiply_69 : decode cX10_multiply 69 = .ok (.if_icmp .ge 30, 3) := by decide +kernel
theorem dX10_multiply_72 : decode cX10_multiply 72 = .ok (.aload_n 0, 1) := by decide +kernel
theorem dX10_multiply_73 : decode cX10_multiply 73 = .ok (.getfield 46, 3) := by decide +kernel
theorem dX10_multiply_76 : decode cX10_multiply 76 = .ok (.iload 5, 2) := by decide +kernel
theorem dX10_multiply_78 : decode cX10_multiply 78 = .ok (.iload_n 3, 1) := by decide +kernel
theorem dX10_multiply_79 : decode cX10_multiply 79 = .ok (.aload_n 0, 1) := by decide +kernel
theorem dX10_multiply_80 : decode cX10_multiply 80 = .ok (.getfield 43, 3) := by decide +kernel
theorem dX10_multiply_83 : decode cX10_multiply 83 = .ok (.bipush 12, 2) := by decide +kernel
theorem dX10_multiply_85 : decode cX10_multiply 85 = .ok (.iload_n 2, 1) := by decide +kernel
theorem dX10_multiply_86 : decode cX10_multiply 86 = .ok (.imul, 1) := by decide +kernel
theorem dX10_multiply_87 : decode cX10_multiply 87 = .ok (.iload 5, 2) := by decide +kernel
theorem dX10_multiply_89 : decode cX10_multiply 89 = .ok (.iadd, 1) := by decide +kernel
theorem dX10_multiply_90 : decode cX10_multiply 90 = .ok (.iaload, 1) := by decide +kernel
theorem dX10_multiply_91 : decode cX10_multiply 91 = .ok (.imul, 1) := by decide +kernel
theorem dX10_multiply_92 : decode cX10_multiply 92 = .ok (.iastore, 1) := by decide +kernel
theorem dX10_multiply_93 : decode cX10_multiply 93 = .ok (.iinc 5 1, 3) := by decide +kernel
theorem dX10_multiply_96 : decode cX10_multiply 96 = .ok (.goto (-33), 3) := by decide +kernel
theorem dX10_multiply_99 : decode cX10_multiply 99 = .ok (.aload_n 0, 1) := by decide +kernel
theorem dX10_multiply_100 : decode cX10_multiply 100 = .ok (.iload_n 1, 1) := by decide +kernel
theorem dX10_multiply_101 : decode cX10_multiply 101 = .ok (.iload 4, 2) := by decide +kernel
theorem dX10_multiply_103 : decode cX10_multiply 103 = .ok (.invokevirtual 191, 3) := by decide +kernel
theorem dX10_multiply_106 : decode cX10_multiply 106 = .ok (.ireturn, 1) := by decide +kernel
set_option maxRecDepth 20000 in
theorem ggX10_convert_X10_noSystem : GoodIn wsX10_convert wsX10_noSystem := goodIn_r _ [11, 12, 13, 10, 14] (by decide +kernel) (by decide +kernel)
set_option maxRecDepth 20000 in
theorem gX10_convert_X10_noSystem : GoodIn wsX10_convert (va_wsS RX10 70 yX10_noSystem wsX10_noSystem) := goodIn_app (goodIn_of _ (by decide +kernel)) ggX10_convert_X10_noSystem
set_option maxRecDepth 20000 in
theorem ggX10_convert_X10_noRow : GoodIn wsX10_convert wsX10_noRow := goodIn_r _ [17, 12, 13, 10, 14] (by decide +kernel) (by decide +kernel)
set_option maxRecDepth 20000 in
theorem gX10_convert_X10_noRow : GoodIn wsX10_convert (va_wsS RX10 154 yX10_noRow wsX10_noRow) := goodIn_app (goodIn_of _ (by decide +kernel)) ggX10_convert_X10_noRow
set_option maxRecDepth 20000 in
theorem ggX10_convert_X10_isComplete : GoodIn wsX10_convert wsX10_isComplete := goodIn_r _ [21, 22, 23, 24, 10, 25, 26, 27, 28, 29, 30, 31, 32, 33, 34, 35, 73, 74, 75, 76, 77, 78, 79, 80, 81, 82, 83, 84, 85, 86, 87, 88, 89, 90, 91, 92, 93] (by decide +kernel) (by decide +kernel)
set_option maxRecDepth 20000 in
theorem gX10_convert_X10_isComplete : GoodIn wsX10_convert (wsV RX10 96 RX10 yX10_isComplete wsX10_isComplete) := goodIn_app (goodIn_of _ (by decide +kernel)) ggX10_convert_X10_isComplete
set_option maxRecDepth 20000 in
theorem ggX10_convert_X10_findValue : GoodIn wsX10_convert wsX10_findValue := goodIn_r _ [39, 4, 3, 40, 41, 22, 42, 43, 44, 10, 45, 73, 74, 75, 76, 77, 78, 79, 80, 81, 82, 83, 84, 85, 86, 87, 88, 89, 90, 91, 92, 93] (by decide +kernel) (by decide +kernel)
set_option maxRecDepth 20000 in
theorem gX10_convert_X10_findValue : GoodIn wsX10_convert (wsV RX10 168 RX10 yX10_findValue wsX10_findValue) := goodIn_app (goodIn_of _ (by decide +kernel)) ggX10_convert_X10_findValue
set_option maxRecDepth 20000 in
theorem ggX10_convert_X10_expand : GoodIn wsX10_convert wsX10_expand := goodIn_r _ [49, 7, 50, 41, 40, 51, 52, 53, 10, 54, 55, 56, 57, 58, 59, 60, 31, 26, 27, 28, 29, 30, 32, 33, 34, 35, 22, 23, 24, 25, 61, 62, 63, 64, 65, 66, 67, 68, 42, 69, 70, 71, 72, 73, 74, 75, 76, 77, 78, 79, 80, 81, 82, 83, 84, 85, 86, 87, 88, 89, 90, 91, 92, 93] (by decide +kernel) (by decide +kernel)
set_option maxRecDepth 20000 in
theorem gX10_convert_X10_expand : GoodIn wsX10_convert (wsV RX10 179 RX10 yX10_expand wsX10_expand) := goodIn_app (goodIn_of _ (by decide +kernel)) ggX10_convert_X10_expand
theorem dX10_convert_0 : decode cX10_convert 0 = .ok (.iload_n 1, 1) := by decide +kernel
theorem dX10_convert_1 : decode cX10_convert 1 = .ok (.invokestatic 70, 3) := by decide +kernel
theorem dX10_convert_4 : decode cX10_convert 4 = .ok (.ifCond .ne 17, 3) := by decide +kernel
theorem dX10_convert_7 : decode cX10_convert 7 = .ok (.iload_n 2, 1) := by decide +kernel
theorem dX10_convert_8 : decode cX10_convert 8 = .ok (.invokestatic 154, 3) := by decide +kernel
theorem dX10_convert_11 : decode cX10_convert 11 = .ok (.ifCond .ne 10, 3) := by decide +kernel
theorem dX10_convert_14 : decode cX10_convert 14 = .ok (.iload_n 3, 1) := by decide +kernel
theorem dX10_convert_15 : decode cX10_convert 15 = .ok (.invokestatic 154, 3) := by decide +kernel
theorem dX10_convert_18 : decode cX10_convert 18 = .ok (.ifCond .eq 6, 3) := by decide +kernel
theorem dX10_convert_21 : decode cX10_convert 21 = .ok (.ldc 74, 2) := by decide +kernel
theorem dX10_convert_23 : decode cX10_convert 23 = .ok (.ireturn, 1) := by decide +kernel
theorem dX10_convert_24 : decode cX10_convert 24 = .ok (.aload_n 0, 1) := by decide +kernel
theorem dX10_convert_25 : decode cX10_convert 25 = .ok (.iconst 1, 1) := by decide +kernel
theorem dX10_convert_26 : decode cX10_convert 26 = .ok (.iload_n 1, 1) := by decide +kernel
theorem dX10_convert_27 : decode cX10_convert 27 = .ok (.isub, 1) := by decide +kernel
theorem dX10_convert_28 : decode cX10_convert 28 = .ok (.invokevirtual 96, 3) := by decide +kernel
theorem dX10_convert_31 : decode cX10_convert 31 = .ok (.ifCond .ne 6, 3) := by decide +kernel
theorem dX10_convert_34 : decode cX10_convert 34 = .ok (.ldc 116, 2) := by decide +kernel
theorem dX10_convert_36 : decode cX10_convert 36 = .ok (.ireturn, 1) := by decide +kernel
theorem dX10_convert_37 : decode cX10_convert 37 = .ok (.aload_n 0, 1) := by decide +kernel
theorem dX10_convert_38 : decode cX10_convert 38 = .ok (.iload_n 1, 1) := by decide +kernel
theorem dX10_convert_39 : decode cX10_convert 39 = .ok (.iload_n 2, 1) := by decide +kernel
theorem dX10_convert_40 : decode cX10_convert 40 = .ok (.invokevirtual 168, 3) := by decide +kernel
theorem dX10_convert_43 : decode cX10_convert 43 = .ok (.aload_n 0, 1) := by decide +kernel
theorem dX10_convert_44 : decode cX10_convert 44 = .ok (.getfield 161, 3) := by decide +kernel
theorem dX10_convert_47 : decode cX10_convert 47 = .ok (.lconst 1, 1) := by decide +kernel
theorem dX10_convert_48 : decode cX10_convert 48 = .ok (.lcmp, 1) := by decide +kernel
theorem dX10_convert_49 : decode cX10_convert 49 = .ok (.ifCond .ne 25, 3) := by decide +kernel
theorem dX10_convert_52 : decode cX10_convert 52 = .ok (.aload_n 0, 1) := by decide +kernel
theorem dX10_convert_53 : decode cX10_convert 53 = .ok (.getfield 157, 3) := by decide +kernel
theorem dX10_convert_56 : decode cX10_convert 56 = .ok (.ldc2_w 194, 3) := by decide +kernel
theorem dX10_convert_59 : decode cX10_convert 59 = .ok (.lcmp, 1) := by decide +kernel
theorem dX10_convert_60 : decode cX10_convert 60 = .ok (.ifCond .gt 14, 3) := by decide +kernel
theorem dX10_convert_63 : decode cX10_convert 63 = .ok (.aload_n 0, 1) := by decide +kernel
theorem dX10_convert_64 : decode cX10_convert 64 = .ok (.getfield 157, 3) := by decide +kernel
theorem dX10_convert_67 : decode cX10_convert 67 = .ok (.ldc2_w 196, 3) := by decide +kernel
theorem dX10_convert_70 : decode cX10_convert 70 = .ok (.lcmp, 1) := by decide +kernel
theorem dX10_convert_71 : decode cX10_convert 71 = .ok (.ifCond .ge 6, 3) := by decide +kernel
theorem dX10_convert_74 : decode cX10_convert 74 = .ok (.ldc 84, 2) := by decide +kernel
theorem dX10_convert_76 : decode cX10_convert 76 = .ok (.ireturn, 1) := by decide +kernel
theorem dX10_convert_77 : decode cX10_convert 77 = .ok (.aload_n 0, 1) := by decide +kernel
theorem dX10_convert_78 : decode cX10_convert 78 = .ok (.iconst 1, 1) := by decide +kernel
theorem dX10_convert_79 : decode cX10_convert 79 = .ok (.iload_n 1, 1) := by decide +kernel
theorem dX10_convert_80 : decode cX10_convert 80 = .ok (.isub, 1) := by decide +kernel
theorem dX10_convert_81 : decode cX10_convert 81 = .ok (.aload_n 0, 1) := by decide +kernel
theorem dX10_convert_82 : decode cX10_convert 82 = .ok (.getfield 157, 3) := by decide +kernel
theorem dX10_convert_85 : decode cX10_convert 85 = .ok (.l2i, 1) := by decide +kernel
theorem dX10_convert_86 : decode cX10_convert 86 = .ok (.iload_n 3, 1) := by decide +kernel
theorem dX10_convert_87 : decode cX10_convert 87 = .ok (.invokevirtual 179, 3) := by decide +kernel
theorem dX10_convert_90 : decode cX10_convert 90 = .ok (.ireturn, 1) := by decide +kernel
set_option maxRecDepth 20000 in
theorem ggX10_nextCarry_X10_noSystem : GoodIn wsX10_nextCarry wsX10_noSystem := goodIn_r _ [7, 8, 9, 6, 10] (by decide +kernel) (by decide +kernel)
set_option maxRecDepth 20000 in
theorem gX10_nextCarry_X10_noSystem : GoodIn wsX10_nextCarry (va_wsS RX10 70 yX10_noSystem wsX10_noSystem) := goodIn_app (goodIn_of _ (by decide +kernel)) ggX10_nextCarry_X10_noSystem
set_option maxRecDepth 20000 in
theorem ggX10_nextCarry_X10_in : GoodIn wsX10_nextCarry wsX10_in := goodIn_r _ [10] (by decide +kernel) (by decide +kernel)
set_option maxRecDepth 20000 in
theorem gX10_nextCarry_X10_in : GoodIn wsX10_nextCarry (va_wsS RX10 62 yX10_in wsX10_in) := goodIn_app (goodIn_of _ (by decide +kernel)) ggX10_nextCarry_X10_in
set_option maxRecDepth 20000 in
theorem ggX10_nextCarry_X10_isComplete : GoodIn wsX10_nextCarry wsX10_isComplete := goodIn_r _ [14, 15, 16, 17, 6, 18, 19, 20, 21, 22, 23, 24, 25, 26, 27, 28, 42, 43, 44, 45, 46, 47, 48, 49, 50, 51, 52, 53, 54, 55, 56, 57, 58, 59, 60, 61, 62] (by decide +kernel) (by decide +kernel)
set_option maxRecDepth 20000 in
theorem gX10_nextCarry_X10_isComplete : GoodIn wsX10_nextCarry (wsV RX10 96 RX10 yX10_isComplete wsX10_isComplete) := goodIn_app (goodIn_of _ (by decide +kernel)) ggX10_nextCarry_X10_isComplete
set_option maxRecDepth 20000 in
theorem ggX10_nextCarry_X10_carried : GoodIn wsX10_nextCarry wsX10_carried := goodIn_r _ [32, 33, 15, 34, 35, 36, 6, 37, 25, 26, 27, 28, 16, 17, 18, 38, 39, 40, 41, 24, 19, 20, 21, 22, 23, 42, 43, 44, 45, 46, 47, 48, 49, 50, 51, 52, 53, 54, 55, 56, 57, 58, 59, 60, 61, 62] (by decide +kernel) (by decide +kernel)
set_option maxRecDepth 20000 in
theorem gX10_nextCarry_X10_carried : GoodIn wsX10_nextCarry (wsV RX10 188 RX10 yX10_carried wsX10_carried) := goodIn_app (goodIn_of _ (by decide +kernel)) ggX10_nextCarry_X10_carried
theorem dX10_nextCarry_0 : decode cX10_nextCarry 0 = .ok (.iload_n 1, 1) := by decide +kernel
theorem dX10_nextCarry_1 : decode cX10_nextCarry 1 = .ok (.invokestatic 70, 3) := by decide +kernel
theorem dX10_nextCarry_4 : decode cX10_nextCarry 4 = .ok (.ifCond .eq 6, 3) := by decide +kernel
theorem dX10_nextCarry_7 : decode cX10_nextCarry 7 = .ok (.ldc 74, 2) := by decide +kernel
theorem dX10_nextCarry_9 : decode cX10_nextCarry 9 = .ok (.ireturn, 1) := by decide +kernel
theorem dX10_nextCarry_10 : decode cX10_nextCarry 10 = .ok (.iload_n 2, 1) := by decide +kernel
theorem dX10_nextCarry_11 : decode cX10_nextCarry 11 = .ok (.sipush (-10000), 3) := by decide +kernel
theorem dX10_nextCarry_14 : decode cX10_nextCarry 14 = .ok (.sipush 10000, 3) := by decide +kernel
theorem dX10_nextCarry_17 : decode cX10_nextCarry 17 = .ok (.invokestatic 62, 3) := by decide +kernel
theorem dX10_nextCarry_20 : decode cX10_nextCarry 20 = .ok (.ifCond .eq 16, 3) := by decide +kernel
theorem dX10_nextCarry_23 : decode cX10_nextCarry 23 = .ok (.iload_n 3, 1) := by decide +kernel
theorem dX10_nextCarry_24 : decode cX10_nextCarry 24 = .ok (.sipush (-2000), 3) := by decide +kernel
theorem dX10_nextCarry_27 : decode cX10_nextCarry 27 = .ok (.sipush 2000, 3) := by decide +kernel
theorem dX10_nextCarry_30 : decode cX10_nextCarry 30 = .ok (.invokestatic 62, 3) := by decide +kernel
theorem dX10_nextCarry_33 : decode cX10_nextCarry 33 = .ok (.ifCond .ne 6, 3) := by decide +kernel
theorem dX10_nextCarry_36 : decode cX10_nextCarry 36 = .ok (.ldc 79, 2) := by decide +kernel
theorem dX10_nextCarry_38 : decode cX10_nextCarry 38 = .ok (.ireturn, 1) := by decide +kernel
theorem dX10_nextCarry_39 : decode cX10_nextCarry 39 = .ok (.aload_n 0, 1) := by decide +kernel
theorem dX10_nextCarry_40 : decode cX10_nextCarry 40 = .ok (.iload_n 1, 1) := by decide +kernel
theorem dX10_nextCarry_41 : decode cX10_nextCarry 41 = .ok (.invokevirtual 96, 3) := by decide +kernel
theorem dX10_nextCarry_44 : decode cX10_nextCarry 44 = .ok (.ifCond .eq 13, 3) := by decide +kernel
theorem dX10_nextCarry_47 : decode cX10_nextCarry 47 = .ok (.aload_n 0, 1) := by decide +kernel
theorem dX10_nextCarry_48 : decode cX10_nextCarry 48 = .ok (.iload_n 1, 1) := by decide +kernel
theorem dX10_nextCarry_49 : decode cX10_nextCarry 49 = .ok (.iload_n 2, 1) := by decide +kernel
theorem dX10_nextCarry_50 : decode cX10_nextCarry 50 = .ok (.iload_n 3, 1) := by decide +kernel
theorem dX10_nextCarry_51 : decode cX10_nextCarry 51 = .ok (.invokevirtual 188, 3) := by decide +kernel
theorem dX10_nextCarry_54 : decode cX10_nextCarry 54 = .ok (.goto 5, 3) := by decide +kernel
theorem dX10_nextCarry_57 : decode cX10_nextCarry 57 = .ok (.ldc 116, 2) := by decide +kernel
theorem dX10_nextCarry_59 : decode cX10_nextCarry 59 = .ok (.ireturn, 1) := by decide +kernel
set_option maxRecDepth 20000 in
theorem ggX10_spread_X10_carried : GoodIn wsX10_spread wsX10_carried := goodIn_r _ [8, 9, 10, 11, 12, 13, 7, 14, 15, 16, 17, 18, 19, 20, 21, 22, 23, 24, 25, 3, 26, 27, 28, 29, 1, 30, 31, 32, 33, 34, 35, 36, 37, 38, 39, 40, 41, 42, 43, 44, 45, 46, 47, 48, 49, 50] (by decide +kernel) (by decide +kernel)
set_option maxRecDepth 20000 in
theorem gX10_spread_X10_carried : GoodIn wsX10_spread (wsV RX10 188 RX10 yX10_carried wsX10_carried) := goodIn_app (goodIn_of _ (by decide +kernel)) ggX10_spread_X10_carried
theorem dX10_spread_0 : decode cX10_spread 0 = .ok (.iconst 1, 1) := by decide +kernel
theorem dX10_spread_1 : decode cX10_spread 1 = .ok (.istore_n 3, 1) := by decide +kernel
theorem dX10_spread_2 : decode cX10_spread 2 = .ok (.iload_n 3, 1) := by decide +kernel
theorem dX10_spread_3 : decode cX10_spread 3 = .ok (.ifCond .eq 181, 3) := by decide +kernel
theorem dX10_spread_6 : decode cX10_spread 6 = .ok (.iconst 0, 1) := by decide +kernel
theorem dX10_spread_7 : decode cX10_spread 7 = .ok (.istore_n 3, 1) := by decide +kernel
theorem dX10_spread_8 : decode cX10_spread 8 = .ok (.bipush (-64), 2) := by decide +kernel
theorem dX10_spread_10 : decode cX10_spread 10 = .ok (.istore 4, 2) := by decide +kernel
theorem dX10_spread_12 : decode cX10_spread 12 = .ok (.iload 4, 2) := by decide +kernel
theorem dX10_spread_14 : decode cX10_spread 14 = .ok (.bipush 64, 2) := by decide +kernel
theorem dX10_spread_16 : decode cX10_spread 16 = .ok (.if_icmp .gt 165, 3) := by decide +kernel
theorem dX10_spread_19 : decode cX10_spread 19 = .ok (.iconst 0, 1) := by decide +kernel
theorem dX10_spread_20 : decode cX10_spread 20 = .ok (.istore 5, 2) := by decide +kernel
theorem dX10_spread_22 : decode cX10_spread 22 = .ok (.iload 5, 2) := by decide +kernel
theorem dX10_spread_24 : decode cX10_spread 24 = .ok (.iload_n 2, 1) := by decide +kernel
theorem dX10_spread_25 : decode cX10_spread 25 = .ok (.ifCond .ne 7, 3) := by decide +kernel
theorem dX10_spread_28 : decode cX10_spread 28 = .ok (.iconst 1, 1) := by decide +kernel
theorem dX10_spread_29 : decode cX10_spread 29 = .ok (.goto 9, 3) := by decide +kernel
theorem dX10_spread_32 : decode cX10_spread 32 = .ok (.aload_n 0, 1) := by decide +kernel
theorem dX10_spread_33 : decode cX10_spread 33 = .ok (.getfield 16, 3) := by decide +kernel
theorem dX10_spread_36 : decode cX10_spread 36 = .ok (.iload_n 1, 1) := by decide +kernel
theorem dX10_spread_37 : decode cX10_spread 37 = .ok (.iaload, 1) := by decide +kernel
theorem dX10_spread_38 : decode cX10_spread 38 = .ok (.if_icmp .ge 137, 3) := by decide +kernel
theorem dX10_spread_41 : decode cX10_spread 41 = .ok (.aload_n 0, 1) := by decide +kernel
theorem dX10_spread_42 : decode cX10_spread 42 = .ok (.getfield 52, 3) := by decide +kernel
theorem dX10_spread_45 : decode cX10_spread 45 = .ok (.iload 4, 2) := by decide +kernel
theorem dX10_spread_47 : decode cX10_spread 47 = .ok (.bipush 64, 2) := by decide +kernel
theorem dX10_spread_49 : decode cX10_spread 49 = .ok (.iadd, 1) := by decide +kernel
theorem dX10_spread_50 : decode cX10_spread 50 = .ok (.baload, 1) := by decide +kernel
theorem dX10_spread_51 : decode cX10_spread 51 = .ok (.ifCond .eq 124, 3) := by decide +kernel
theorem dX10_spread_54 : decode cX10_spread 54 = .ok (.iconst 0, 1) := by decide +kernel
theorem dX10_spread_55 : decode cX10_spread 55 = .ok (.istore 6, 2) := by decide +kernel
theorem dX10_spread_57 : decode cX10_spread 57 = .ok (.iload 6, 2) := by decide +kernel
theorem dX10_spread_59 : decode cX10_spread 59 = .ok (.iload_n 2, 1) := by decide +kernel
theorem dX10_spread_60 : decode cX10_spread 60 = .ok (.iconst 2, 1) := by decide +kernel
theorem dX10_spread_61 : decode cX10_spread 61 = .ok (.if_icmp .ge 7, 3) := by decide +kernel
theorem dX10_spread_64 : decode cX10_spread 64 = .ok (.iconst 1, 1) := by decide +kernel
theorem dX10_spread_65 : decode cX10_spread 65 = .ok (.goto 9, 3) := by decide +kernel
theorem dX10_spread_68 : decode cX10_spread 68 = .ok (.aload_n 0, 1) := by decide +kernel
theorem dX10_spread_69 : decode cX10_spread 69 = .ok (.getfield 16, 3) := by decide +kernel
theorem dX10_spread_72 : decode cX10_spread 72 = .ok (.iload_n 1, 1) := by decide +kernel
theorem dX10_spread_73 : decode cX10_spread 73 = .ok (.iaload, 1) := by decide +kernel
theorem dX10_spread_74 : decode cX10_spread 74 = .ok (.if_icmp .ge 95, 3) := by decide +kernel
theorem dX10_spread_77 : decode cX10_spread 77 = .ok (.iload_n 2, 1) := by decide +kernel
theorem dX10_spread_78 : decode cX10_spread 78 = .ok (.ifCond .le 18, 3) := by decide +kernel
theorem dX10_spread_81 : decode cX10_spread 81 = .ok (.aload_n 0, 1) := by decide +kernel
theorem dX10_spread_82 : decode cX10_spread 82 = .ok (.getfield 19, 3) := by decide +kernel
theorem dX10_spread_85 : decode cX10_spread 85 = .ok (.bipush 12, 2) := by decide +kernel
theorem dX10_spread_87 : decode cX10_spread 87 = .ok (.iload_n 1, 1) := by decide +kernel
theorem dX10_spread_88 : decode cX10_spread 88 = .ok (.imul, 1) := by decide +kernel
theorem dX10_spread_89 : decode cX10_spread 89 = .ok (.iload 5, 2) := by decide +kernel
theorem dX10_spread_91 : decode cX10_spread 91 = .ok (.iadd, 1) := by decide +kernel
theorem dX10_spread_92 : decode cX10_spread 92 = .ok (.iaload, 1) := by decide +kernel
theorem dX10_spread_93 : decode cX10_spread 93 = .ok (.goto 4, 3) := by decide +kernel
theorem dX10_spread_96 : decode cX10_spread 96 = .ok (.iconst 0, 1) := by decide +kernel
theorem dX10_spread_97 : decode cX10_spread 97 = .ok (.iload_n 2, 1) := by decide +kernel
theorem dX10_spread_98 : decode cX10_spread 98 = .ok (.iconst 1, 1) := by decide +kernel
theorem dX10_spread_99 : decode cX10_spread 99 = .ok (.if_icmp .le 18, 3) := by decide +kernel
theorem dX10_spread_102 : decode cX10_spread 102 = .ok (.aload_n 0, 1) := by decide +kernel
theorem dX10_spread_103 : decode cX10_spread 103 = .ok (.getfield 19, 3) := by decide +kernel
theorem dX10_spread_106 : decode cX10_spread 106 = .ok (.bipush 12, 2) := by decide +kernel
theorem dX10_spread_108 : decode cX10_spread 108 = .ok (.iload_n 1, 1) := by decide +kernel
theorem dX10_spread_109 : decode cX10_spread 109 = .ok (.imul, 1) := by decide +kernel
theorem dX10_spread_110 : decode cX10_spread 110 = .ok (.iload 6, 2) := by decide +kernel
theorem dX10_spread_112 : decode cX10_spread 112 = .ok (.iadd, 1) := by decide +kernel
theorem dX10_spread_113 : decode cX10_spread 113 = .ok (.iaload, 1) := by decide +kernel
theorem dX10_spread_114 : decode cX10_spread 114 = .ok (.goto 4, 3) := by decide +kernel
theorem dX10_spread_117 : decode cX10_spread 117 = .ok (.iconst 0, 1) := by decide +kernel
theorem dX10_spread_118 : decode cX10_spread 118 = .ok (.iadd, 1) := by decide +kernel
theorem dX10_spread_119 : decode cX10_spread 119 = .ok (.istore 7, 2) := by decide +kernel
theorem dX10_spread_121 : decode cX10_spread 121 = .ok (.aload_n 0, 1) := by decide +kernel
theorem dX10_spread_122 : decode cX10_spread 122 = .ok (.iload_n 1, 1) := by decide +kernel
theorem dX10_spread_123 : decode cX10_spread 123 = .ok (.iload 4, 2) := by decide +kernel
theorem dX10_spread_125 : decode cX10_spread 125 = .ok (.iload 7, 2) := by decide +kernel
theorem dX10_spread_127 : decode cX10_spread 127 = .ok (.invokevirtual 188, 3) := by decide +kernel
theorem dX10_spread_130 : decode cX10_spread 130 = .ok (.bipush 64, 2) := by decide +kernel
theorem dX10_spread_132 : decode cX10_spread 132 = .ok (.iadd, 1) := by decide +kernel
theorem dX10_spread_133 : decode cX10_spread 133 = .ok (.istore 8, 2) := by decide +kernel
theorem dX10_spread_135 : decode cX10_spread 135 = .ok (.iload_n 3, 1) := by decide +kernel
theorem dX10_spread_136 : decode cX10_spread 136 = .ok (.ifCond .ne 13, 3) := by decide +kernel
theorem dX10_spread_139 : decode cX10_spread 139 = .ok (.aload_n 0, 1) := by decide +kernel
theorem dX10_spread_140 : decode cX10_spread 140 = .ok (.getfield 52, 3) := by decide +kernel
theorem dX10_spread_143 : decode cX10_spread 143 = .ok (.iload 8, 2) := by decide +kernel
theorem dX10_spread_145 : decode cX10_spread 145 = .ok (.baload, 1) := by decide +kernel
theorem dX10_spread_146 : decode cX10_spread 146 = .ok (.ifCond .ne 7, 3) := by decide +kernel
theorem dX10_spread_149 : decode cX10_spread 149 = .ok (.iconst 1, 1) := by decide +kernel
theorem dX10_spread_150 : decode cX10_spread 150 = .ok (.goto 4, 3) := by decide +kernel
theorem dX10_spread_153 : decode cX10_spread 153 = .ok (.iconst 0, 1) := by decide +kernel
theorem dX10_spread_154 : decode cX10_spread 154 = .ok (.istore_n 3, 1) := by decide +kernel
theorem dX10_spread_155 : decode cX10_spread 155 = .ok (.aload_n 0, 1) := by decide +kernel
theorem dX10_spread_156 : decode cX10_spread 156 = .ok (.getfield 52, 3) := by decide +kernel
theorem dX10_spread_159 : decode cX10_spread 159 = .ok (.iload 8, 2) := by decide +kernel
theorem dX10_spread_161 : decode cX10_spread 161 = .ok (.iconst 1, 1) := by decide +kernel
theorem dX10_spread_162 : decode cX10_spread 162 = .ok (.bastore, 1) := by decide +kernel
theorem dX10_spread_163 : decode cX10_spread 163 = .ok (.iinc 6 1, 3) := by decide +kernel
theorem dX10_spread_166 : decode cX10_spread 166 = .ok (.goto (-109), 3) := by decide +kernel
theorem dX10_spread_169 : decode cX10_spread 169 = .ok (.iinc 5 1, 3) := by decide +kernel
theorem dX10_spread_172 : decode cX10_spread 172 = .ok (.goto (-150), 3) := by decide +kernel
theorem dX10_spread_175 : decode cX10_spread 175 = .ok (.iinc 4 1, 3) := by decide +kernel
theorem dX10_spread_178 : decode cX10_spread 178 = .ok (.goto (-166), 3) := by decide +kernel
theorem dX10_spread_181 : decode cX10_spread 181 = .ok (.goto (-179), 3) := by decide +kernel
theorem dX10_spread_184 : decode cX10_spread 184 = .ok (.return_, 1) := by decide +kernel
set_option maxRecDepth 20000 in
theorem ggX10_findCarries_X10_spread : GoodIn wsX10_findCarries wsX10_spread := goodIn_r _ [6, 7, 1, 8, 9, 10, 11, 5, 12, 13, 14, 15, 16, 17, 18, 19, 20, 21, 22, 23, 24, 25, 26, 27, 28, 29, 30, 31, 32, 33, 34, 35, 36, 37, 38, 39, 40, 41, 42, 43, 44, 45, 46, 47, 48, 49, 50, 51, 52, 53, 54] (by decide +kernel) (by decide +kernel)
set_option maxRecDepth 20000 in
theorem gX10_findCarries_X10_spread : GoodIn wsX10_findCarries (wsV RX10 198 RX10 yX10_spread wsX10_spread) := goodIn_app (goodIn_of _ (by decide +kernel)) ggX10_findCarries_X10_spread
theorem dX10_findCarries_0 : decode cX10_findCarries 0 = .ok (.iconst 0, 1) := by decide +kernel
theorem dX10_findCarries_1 : decode cX10_findCarries 1 = .ok (.istore_n 2, 1) := by decide +kernel
theorem dX10_findCarries_2 : decode cX10_findCarries 2 = .ok (.iload_n 2, 1) := by decide +kernel
theorem dX10_findCarries_3 : decode cX10_findCarries 3 = .ok (.sipush 129, 3) := by decide +kernel
theorem dX10_findCarries_6 : decode cX10_findCarries 6 = .ok (.if_icmp .ge 26, 3) := by decide +kernel
theorem dX10_findCarries_9 : decode cX10_findCarries 9 = .ok (.aload_n 0, 1) := by decide +kernel
theorem dX10_findCarries_10 : decode cX10_findCarries 10 = .ok (.getfield 52, 3) := by decide +kernel
theorem dX10_findCarries_13 : decode cX10_findCarries 13 = .ok (.iload_n 2, 1) := by decide +kernel
theorem dX10_findCarries_14 : decode cX10_findCarries 14 = .ok (.iload_n 2, 1) := by decide +kernel
theorem dX10_findCarries_15 : decode cX10_findCarries 15 = .ok (.bipush 64, 2) := by decide +kernel
theorem dX10_findCarries_17 : decode cX10_findCarries 17 = .ok (.if_icmp .ne 7, 3) := by decide +kernel
theorem dX10_findCarries_20 : decode cX10_findCarries 20 = .ok (.iconst 1, 1) := by decide +kernel
theorem dX10_findCarries_21 : decode cX10_findCarries 21 = .ok (.goto 4, 3) := by decide +kernel
theorem dX10_findCarries_24 : decode cX10_findCarries 24 = .ok (.iconst 0, 1) := by decide +kernel
theorem dX10_findCarries_25 : decode cX10_findCarries 25 = .ok (.bastore, 1) := by decide +kernel
theorem dX10_findCarries_26 : decode cX10_findCarries 26 = .ok (.iinc 2 1, 3) := by decide +kernel
theorem dX10_findCarries_29 : decode cX10_findCarries 29 = .ok (.goto (-27), 3) := by decide +kernel
theorem dX10_findCarries_32 : decode cX10_findCarries 32 = .ok (.aload_n 0, 1) := by decide +kernel
theorem dX10_findCarries_33 : decode cX10_findCarries 33 = .ok (.iload_n 1, 1) := by decide +kernel
theorem dX10_findCarries_34 : decode cX10_findCarries 34 = .ok (.iconst 2, 1) := by decide +kernel
theorem dX10_findCarries_35 : decode cX10_findCarries 35 = .ok (.invokevirtual 198, 3) := by decide +kernel
theorem dX10_findCarries_38 : decode cX10_findCarries 38 = .ok (.aload_n 0, 1) := by decide +kernel
theorem dX10_findCarries_39 : decode cX10_findCarries 39 = .ok (.iload_n 1, 1) := by decide +kernel
theorem dX10_findCarries_40 : decode cX10_findCarries 40 = .ok (.iconst 1, 1) := by decide +kernel
theorem dX10_findCarries_41 : decode cX10_findCarries 41 = .ok (.invokevirtual 198, 3) := by decide +kernel
theorem dX10_findCarries_44 : decode cX10_findCarries 44 = .ok (.aload_n 0, 1) := by decide +kernel
theorem dX10_findCarries_45 : decode cX10_findCarries 45 = .ok (.iload_n 1, 1) := by decide +kernel
theorem dX10_findCarries_46 : decode cX10_findCarries 46 = .ok (.iconst 0, 1) := by decide +kernel
theorem dX10_findCarries_47 : decode cX10_findCarries 47 = .ok (.invokevirtual 198, 3) := by decide +kernel
theorem dX10_findCarries_50 : decode cX10_findCarries 50 = .ok (.return_, 1) := by decide +kernel
set_option maxRecDepth 20000 in
theorem ggX10_carryCount_X10_systemBarred : GoodIn wsX10_carryCount wsX10_systemBarred := goodIn_r _ [6, 7, 8, 9, 10, 5, 11, 12, 13, 14, 15, 16, 17, 18, 19, 20, 21, 22, 23, 24, 25, 26, 27, 28, 29, 30, 31, 32, 54, 55, 56, 57, 58, 59, 60, 61, 62, 63, 64, 65, 66, 67, 68, 69, 70, 71, 72, 73, 74] (by decide +kernel) (by decide +kernel)
set_option maxRecDepth 20000 in
theorem gX10_carryCount_X10_systemBarred : GoodIn wsX10_carryCount (wsV RX10 133 RX10 yX10_systemBarred wsX10_systemBarred) := goodIn_app (goodIn_of _ (by decide +kernel)) ggX10_carryCount_X10_systemBarred
set_option maxRecDepth 20000 in
theorem ggX10_carryCount_X10_findCarries : GoodIn wsX10_carryCount wsX10_findCarries := goodIn_r _ [36, 1, 37, 38, 39, 5, 40, 27, 28, 41, 42, 43, 44, 45, 19, 46, 47, 48, 49, 29, 30, 31, 32, 20, 21, 22, 50, 51, 52, 53, 23, 24, 25, 26, 54, 55, 56, 57, 58, 59, 60, 61, 62, 63, 64, 65, 66, 67, 68, 69, 70, 71, 72, 73, 74] (by decide +kernel) (by decide +kernel)
set_option maxRecDepth 20000 in
theorem gX10_carryCount_X10_findCarries : GoodIn wsX10_carryCount (wsV RX10 201 RX10 yX10_findCarries wsX10_findCarries) := goodIn_app (goodIn_of _ (by decide +kernel)) ggX10_carryCount_X10_findCarries
theorem dX10_carryCount_0 : decode cX10_carryCount 0 = .ok (.aload_n 0, 1) := by decide +kernel
theorem dX10_carryCount_1 : decode cX10_carryCount 1 = .ok (.iload_n 1, 1) := by decide +kernel
theorem dX10_carryCount_2 : decode cX10_carryCount 2 = .ok (.invokevirtual 133, 3) := by decide +kernel
theorem dX10_carryCount_5 : decode cX10_carryCount 5 = .ok (.istore_n 2, 1) := by decide +kernel
theorem dX10_carryCount_6 : decode cX10_carryCount 6 = .ok (.iload_n 2, 1) := by decide +kernel
theorem dX10_carryCount_7 : decode cX10_carryCount 7 = .ok (.ifCond .ge 5, 3) := by decide +kernel
theorem dX10_carryCount_10 : decode cX10_carryCount 10 = .ok (.iload_n 2, 1) := by decide +kernel
theorem dX10_carryCount_11 : decode cX10_carryCount 11 = .ok (.ireturn, 1) := by decide +kernel
theorem dX10_carryCount_12 : decode cX10_carryCount 12 = .ok (.aload_n 0, 1) := by decide +kernel
theorem dX10_carryCount_13 : decode cX10_carryCount 13 = .ok (.iload_n 1, 1) := by decide +kernel
theorem dX10_carryCount_14 : decode cX10_carryCount 14 = .ok (.invokevirtual 201, 3) := by decide +kernel
theorem dX10_carryCount_17 : decode cX10_carryCount 17 = .ok (.iconst 0, 1) := by decide +kernel
theorem dX10_carryCount_18 : decode cX10_carryCount 18 = .ok (.istore_n 3, 1) := by decide +kernel
theorem dX10_carryCount_19 : decode cX10_carryCount 19 = .ok (.iconst 0, 1) := by decide +kernel
theorem dX10_carryCount_20 : decode cX10_carryCount 20 = .ok (.istore 4, 2) := by decide +kernel
theorem dX10_carryCount_22 : decode cX10_carryCount 22 = .ok (.iload 4, 2) := by decide +kernel
theorem dX10_carryCount_24 : decode cX10_carryCount 24 = .ok (.sipush 129, 3) := by decide +kernel
theorem dX10_carryCount_27 : decode cX10_carryCount 27 = .ok (.if_icmp .ge 27, 3) := by decide +kernel
theorem dX10_carryCount_30 : decode cX10_carryCount 30 = .ok (.iload_n 3, 1) := by decide +kernel
theorem dX10_carryCount_31 : decode cX10_carryCount 31 = .ok (.aload_n 0, 1) := by decide +kernel
theorem dX10_carryCount_32 : decode cX10_carryCount 32 = .ok (.getfield 52, 3) := by decide +kernel
theorem dX10_carryCount_35 : decode cX10_carryCount 35 = .ok (.iload 4, 2) := by decide +kernel
theorem dX10_carryCount_37 : decode cX10_carryCount 37 = .ok (.baload, 1) := by decide +kernel
theorem dX10_carryCount_38 : decode cX10_carryCount 38 = .ok (.ifCond .eq 7, 3) := by decide +kernel
theorem dX10_carryCount_41 : decode cX10_carryCount 41 = .ok (.iconst 1, 1) := by decide +kernel
theorem dX10_carryCount_42 : decode cX10_carryCount 42 = .ok (.goto 4, 3) := by decide +kernel
theorem dX10_carryCount_45 : decode cX10_carryCount 45 = .ok (.iconst 0, 1) := by decide +kernel
theorem dX10_carryCount_46 : decode cX10_carryCount 46 = .ok (.iadd, 1) := by decide +kernel
theorem dX10_carryCount_47 : decode cX10_carryCount 47 = .ok (.istore_n 3, 1) := by decide +kernel
theorem dX10_carryCount_48 : decode cX10_carryCount 48 = .ok (.iinc 4 1, 3) := by decide +kernel
theorem dX10_carryCount_51 : decode cX10_carryCount 51 = .ok (.goto (-29), 3) := by decide +kernel
theorem dX10_carryCount_54 : decode cX10_carryCount 54 = .ok (.iload_n 3, 1) := by decide +kernel
theorem dX10_carryCount_55 : decode cX10_carryCount 55 = .ok (.ireturn, 1) := by decide +kernel
set_option maxRecDepth 20000 in
theorem ggX10_carry_X10_noSystem : GoodIn wsX10_carry wsX10_noSystem := goodIn_r _ [9, 10, 11, 8, 12] (by decide +kernel) (by decide +kernel)
set_option maxRecDepth 20000 in
theorem gX10_carry_X10_noSystem : GoodIn wsX10_carry (va_wsS RX10 70 yX10_noSystem wsX10_noSystem) := goodIn_app (goodIn_of _ (by decide +kernel)) ggX10_carry_X10_noSystem
set_option maxRecDepth 20000 in
theorem ggX10_carry_X10_isComplete : GoodIn wsX10_carry wsX10_isComplete := goodIn_r _ [16, 17, 18, 19, 8, 20, 21, 22, 23, 24, 25, 26, 27, 28, 29, 30, 52, 53, 54, 55, 56, 57, 58, 59, 60, 61, 62, 63, 64, 65, 66, 67, 68, 69, 70, 71, 72] (by decide +kernel) (by decide +kernel)
set_option maxRecDepth 20000 in
theorem gX10_carry_X10_isComplete : GoodIn wsX10_carry (wsV RX10 96 RX10 yX10_isComplete wsX10_isComplete) := goodIn_app (goodIn_of _ (by decide +kernel)) ggX10_carry_X10_isComplete
set_option maxRecDepth 20000 in
theorem ggX10_carry_X10_findCarries : GoodIn wsX10_carry wsX10_findCarries := goodIn_r _ [34, 4, 35, 36, 37, 8, 38, 25, 26, 39, 40, 41, 42, 43, 17, 44, 45, 46, 47, 27, 28, 29, 30, 18, 19, 20, 48, 49, 50, 51, 21, 22, 23, 24, 52, 53, 54, 55, 56, 57, 58, 59, 60, 61, 62, 63, 64, 65, 66, 67, 68, 69, 70, 71, 72] (by decide +kernel) (by decide +kernel)
set_option maxRecDepth 20000 in
theorem gX10_carry_X10_findCarries : GoodIn wsX10_carry (wsV RX10 201 RX10 yX10_findCarries wsX10_findCarries) := goodIn_app (goodIn_of _ (by decide +kernel)) ggX10_carry_X10_findCarries
theorem dX10_carry_0 : decode cX10_carry 0 = .ok (.iload_n 1, 1) := by decide +kernel
theorem dX10_carry_1 : decode cX10_carry 1 = .ok (.invokestatic 70, 3) := by decide +kernel
theorem dX10_carry_4 : decode cX10_carry 4 = .ok (.ifCond .eq 6, 3) := by decide +kernel
theorem dX10_carry_7 : decode cX10_carry 7 = .ok (.ldc 74, 2) := by decide +kernel
theorem dX10_carry_9 : decode cX10_carry 9 = .ok (.ireturn, 1) := by decide +kernel
theorem dX10_carry_10 : decode cX10_carry 10 = .ok (.iload_n 2, 1) := by decide +kernel
theorem dX10_carry_11 : decode cX10_carry 11 = .ok (.ifCond .ge 6, 3) := by decide +kernel
theorem dX10_carry_14 : decode cX10_carry 14 = .ok (.ldc 79, 2) := by decide +kernel
theorem dX10_carry_16 : decode cX10_carry 16 = .ok (.ireturn, 1) := by decide +kernel
theorem dX10_carry_17 : decode cX10_carry 17 = .ok (.aload_n 0, 1) := by decide +kernel
theorem dX10_carry_18 : decode cX10_carry 18 = .ok (.iload_n 1, 1) := by decide +kernel
theorem dX10_carry_19 : decode cX10_carry 19 = .ok (.invokevirtual 96, 3) := by decide +kernel
theorem dX10_carry_22 : decode cX10_carry 22 = .ok (.ifCond .ne 6, 3) := by decide +kernel
theorem dX10_carry_25 : decode cX10_carry 25 = .ok (.ldc 116, 2) := by decide +kernel
theorem dX10_carry_27 : decode cX10_carry 27 = .ok (.ireturn, 1) := by decide +kernel
theorem dX10_carry_28 : decode cX10_carry 28 = .ok (.aload_n 0, 1) := by decide +kernel
theorem dX10_carry_29 : decode cX10_carry 29 = .ok (.iload_n 1, 1) := by decide +kernel
theorem dX10_carry_30 : decode cX10_carry 30 = .ok (.invokevirtual 201, 3) := by decide +kernel
theorem dX10_carry_33 : decode cX10_carry 33 = .ok (.iconst (-1), 1) := by decide +kernel
theorem dX10_carry_34 : decode cX10_carry 34 = .ok (.istore_n 3, 1) := by decide +kernel
theorem dX10_carry_35 : decode cX10_carry 35 = .ok (.iconst 0, 1) := by decide +kernel
theorem dX10_carry_36 : decode cX10_carry 36 = .ok (.istore 4, 2) := by decide +kernel
theorem dX10_carry_38 : decode cX10_carry 38 = .ok (.iload 4, 2) := by decide +kernel
theorem dX10_carry_40 : decode cX10_carry 40 = .ok (.sipush 129, 3) := by decide +kernel
theorem dX10_carry_43 : decode cX10_carry 43 = .ok (.if_icmp .ge 48, 3) := by decide +kernel
theorem dX10_carry_46 : decode cX10_carry 46 = .ok (.iload_n 3, 1) := by decide +kernel
theorem dX10_carry_47 : decode cX10_carry 47 = .ok (.aload_n 0, 1) := by decide +kernel
theorem dX10_carry_48 : decode cX10_carry 48 = .ok (.getfield 52, 3) := by decide +kernel
theorem dX10_carry_51 : decode cX10_carry 51 = .ok (.iload 4, 2) := by decide +kernel
theorem dX10_carry_53 : decode cX10_carry 53 = .ok (.baload, 1) := by decide +kernel
theorem dX10_carry_54 : decode cX10_carry 54 = .ok (.ifCond .eq 7, 3) := by decide +kernel
theorem dX10_carry_57 : decode cX10_carry 57 = .ok (.iconst 1, 1) := by decide +kernel
theorem dX10_carry_58 : decode cX10_carry 58 = .ok (.goto 4, 3) := by decide +kernel
theorem dX10_carry_61 : decode cX10_carry 61 = .ok (.iconst 0, 1) := by decide +kernel
theorem dX10_carry_62 : decode cX10_carry 62 = .ok (.iadd, 1) := by decide +kernel
theorem dX10_carry_63 : decode cX10_carry 63 = .ok (.istore_n 3, 1) := by decide +kernel
theorem dX10_carry_64 : decode cX10_carry 64 = .ok (.iload_n 3, 1) := by decide +kernel
theorem dX10_carry_65 : decode cX10_carry 65 = .ok (.iload_n 2, 1) := by decide +kernel
theorem dX10_carry_66 : decode cX10_carry 66 = .ok (.if_icmp .ne 19, 3) := by decide +kernel
theorem dX10_carry_69 : decode cX10_carry 69 = .ok (.aload_n 0, 1) := by decide +kernel
theorem dX10_carry_70 : decode cX10_carry 70 = .ok (.getfield 52, 3) := by decide +kernel
theorem dX10_carry_73 : decode cX10_carry 73 = .ok (.iload 4, 2) := by decide +kernel
theorem dX10_carry_75 : decode cX10_carry 75 = .ok (.baload, 1) := by decide +kernel
theorem dX10_carry_76 : decode cX10_carry 76 = .ok (.ifCond .eq 9, 3) := by decide +kernel
theorem dX10_carry_79 : decode cX10_carry 79 = .ok (.iload 4, 2) := by decide +kernel
theorem dX10_carry_81 : decode cX10_carry 81 = .ok (.bipush 64, 2) := by decide +kernel
theorem dX10_carry_83 : decode cX10_carry 83 = .ok (.isub, 1) := by decide +kernel
theorem dX10_carry_84 : decode cX10_carry 84 = .ok (.ireturn, 1) := by decide +kernel
theorem dX10_carry_85 : decode cX10_carry 85 = .ok (.iinc 4 1, 3) := by decide +kernel
theorem dX10_carry_88 : decode cX10_carry 88 = .ok (.goto (-50), 3) := by decide +kernel
theorem dX10_carry_91 : decode cX10_carry 91 = .ok (.ldc 92, 2) := by decide +kernel
theorem dX10_carry_93 : decode cX10_carry 93 = .ok (.ireturn, 1) := by decide +kernel
