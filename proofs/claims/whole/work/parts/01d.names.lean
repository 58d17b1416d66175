set_option maxRecDepth 20000 in
theorem ggX9_init_X2_init : GoodIn wsX9_init wsX2_init := goodIn_r _ [20, 21, 2, 3, 22, 23, 24, 17, 18, 25, 26, 27, 28, 29, 133, 134, 135, 138, 139] (by decide +kernel) (by decide +kernel)
set_option maxRecDepth 20000 in
theorem gX9_init_X2_init_n25 : GoodIn wsX9_init (wsX2_init) := ggX9_init_X2_init
set_option maxRecDepth 20000 in
theorem ggX9_init_X4_init : GoodIn wsX9_init wsX4_init := goodIn_r _ [31, 32, 2, 3, 33, 136, 137] (by decide +kernel) (by decide +kernel)
set_option maxRecDepth 20000 in
theorem gX9_init_X4_init_n32 : GoodIn wsX9_init (wsX4_init) := ggX9_init_X4_init
set_option maxRecDepth 20000 in
theorem ggX9_init_X9_newSystem : GoodIn wsX9_init wsX9_newSystem := goodIn_r _ [37, 38, 39, 40, 4, 41, 42, 43, 44, 45, 46, 47, 48, 49, 50, 51, 52, 53, 54, 55, 56, 57, 2, 3, 22, 58, 59, 60, 61, 62, 63, 64, 65, 66, 67, 68, 69, 70, 71, 72, 73, 74, 75, 76, 77, 78, 79, 80, 81, 82, 83, 84, 85, 86, 87, 88, 89, 90, 91, 92, 93, 94, 95, 96, 97, 98, 99, 100, 101, 102, 103, 104, 105, 106, 107, 108, 109, 110, 111, 112, 113, 114, 115, 116, 117, 118, 119, 120, 121, 122, 123, 124, 125, 126, 127, 140, 141, 142, 143, 144, 145, 146, 147, 148, 149, 150, 151, 152, 153, 154, 155, 156, 157, 158, 159, 160, 161, 162, 163, 164, 165, 166, 167, 168, 169, 170] (by decide +kernel) (by decide +kernel)
set_option maxRecDepth 20000 in
theorem gX9_init_X9_newSystem : GoodIn wsX9_init (va_wsS RX9 40 yX9_newSystem wsX9_newSystem) := goodIn_app (goodIn_of _ (by decide +kernel)) ggX9_init_X9_newSystem
set_option maxRecDepth 20000 in
theorem ggX9_init_X6_init : GoodIn wsX9_init wsX6_init := goodIn_r _ [27, 28, 2, 3, 22, 29, 138, 139] (by decide +kernel) (by decide +kernel)
set_option maxRecDepth 20000 in
theorem gX9_init_X6_init_n44 : GoodIn wsX9_init (wsX6_init) := ggX9_init_X6_init
theorem dX9_init_0 : decode cX9_init 0 = .ok (.aload_n 0, 1) := by decide +kernel
theorem dX9_init_1 : decode cX9_init 1 = .ok (.invokespecial 3, 3) := by decide +kernel
theorem dX9_init_4 : decode cX9_init 4 = .ok (.aload_n 0, 1) := by decide +kernel
theorem dX9_init_5 : decode cX9_init 5 = .ok (.iconst 2, 1) := by decide +kernel
theorem dX9_init_6 : decode cX9_init 6 = .ok (.anewarray 11, 3) := by decide +kernel
theorem dX9_init_9 : decode cX9_init 9 = .ok (.putfield 13, 3) := by decide +kernel
theorem dX9_init_12 : decode cX9_init 12 = .ok (.aload_n 0, 1) := by decide +kernel
theorem dX9_init_13 : decode cX9_init 13 = .ok (.iconst 3, 1) := by decide +kernel
theorem dX9_init_14 : decode cX9_init 14 = .ok (.anewarray 17, 3) := by decide +kernel
theorem dX9_init_17 : decode cX9_init 17 = .ok (.putfield 19, 3) := by decide +kernel
theorem dX9_init_20 : decode cX9_init 20 = .ok (.aload_n 0, 1) := by decide +kernel
theorem dX9_init_21 : decode cX9_init 21 = .ok (.new 23, 3) := by decide +kernel
theorem dX9_init_24 : decode cX9_init 24 = .ok (.dup, 1) := by decide +kernel
theorem dX9_init_25 : decode cX9_init 25 = .ok (.invokespecial 25, 3) := by decide +kernel
theorem dX9_init_28 : decode cX9_init 28 = .ok (.putfield 26, 3) := by decide +kernel
theorem dX9_init_31 : decode cX9_init 31 = .ok (.aload_n 0, 1) := by decide +kernel
theorem dX9_init_32 : decode cX9_init 32 = .ok (.new 30, 3) := by decide +kernel
theorem dX9_init_35 : decode cX9_init 35 = .ok (.dup, 1) := by decide +kernel
theorem dX9_init_36 : decode cX9_init 36 = .ok (.invokespecial 32, 3) := by decide +kernel
theorem dX9_init_39 : decode cX9_init 39 = .ok (.putfield 33, 3) := by decide +kernel
theorem dX9_init_42 : decode cX9_init 42 = .ok (.aload_n 0, 1) := by decide +kernel
theorem dX9_init_43 : decode cX9_init 43 = .ok (.new 30, 3) := by decide +kernel
theorem dX9_init_46 : decode cX9_init 46 = .ok (.dup, 1) := by decide +kernel
theorem dX9_init_47 : decode cX9_init 47 = .ok (.invokespecial 32, 3) := by decide +kernel
theorem dX9_init_50 : decode cX9_init 50 = .ok (.putfield 37, 3) := by decide +kernel
theorem dX9_init_53 : decode cX9_init 53 = .ok (.iconst 0, 1) := by decide +kernel
theorem dX9_init_54 : decode cX9_init 54 = .ok (.istore_n 1, 1) := by decide +kernel
theorem dX9_init_55 : decode cX9_init 55 = .ok (.iload_n 1, 1) := by decide +kernel
theorem dX9_init_56 : decode cX9_init 56 = .ok (.iconst 2, 1) := by decide +kernel
theorem dX9_init_57 : decode cX9_init 57 = .ok (.if_icmp .ge 18, 3) := by decide +kernel
theorem dX9_init_60 : decode cX9_init 60 = .ok (.aload_n 0, 1) := by decide +kernel
theorem dX9_init_61 : decode cX9_init 61 = .ok (.getfield 13, 3) := by decide +kernel
theorem dX9_init_64 : decode cX9_init 64 = .ok (.iload_n 1, 1) := by decide +kernel
theorem dX9_init_65 : decode cX9_init 65 = .ok (.invokestatic 40, 3) := by decide +kernel
theorem dX9_init_68 : decode cX9_init 68 = .ok (.aastore, 1) := by decide +kernel
theorem dX9_init_69 : decode cX9_init 69 = .ok (.iinc 1 1, 3) := by decide +kernel
theorem dX9_init_72 : decode cX9_init 72 = .ok (.goto (-17), 3) := by decide +kernel
theorem dX9_init_75 : decode cX9_init 75 = .ok (.iconst 0, 1) := by decide +kernel
theorem dX9_init_76 : decode cX9_init 76 = .ok (.istore_n 1, 1) := by decide +kernel
theorem dX9_init_77 : decode cX9_init 77 = .ok (.iload_n 1, 1) := by decide +kernel
theorem dX9_init_78 : decode cX9_init 78 = .ok (.iconst 3, 1) := by decide +kernel
theorem dX9_init_79 : decode cX9_init 79 = .ok (.if_icmp .ge 22, 3) := by decide +kernel
theorem dX9_init_82 : decode cX9_init 82 = .ok (.aload_n 0, 1) := by decide +kernel
theorem dX9_init_83 : decode cX9_init 83 = .ok (.getfield 19, 3) := by decide +kernel
theorem dX9_init_86 : decode cX9_init 86 = .ok (.iload_n 1, 1) := by decide +kernel
theorem dX9_init_87 : decode cX9_init 87 = .ok (.new 17, 3) := by decide +kernel
theorem dX9_init_90 : decode cX9_init 90 = .ok (.dup, 1) := by decide +kernel
theorem dX9_init_91 : decode cX9_init 91 = .ok (.invokespecial 44, 3) := by decide +kernel
theorem dX9_init_94 : decode cX9_init 94 = .ok (.aastore, 1) := by decide +kernel
theorem dX9_init_95 : decode cX9_init 95 = .ok (.iinc 1 1, 3) := by decide +kernel
theorem dX9_init_98 : decode cX9_init 98 = .ok (.goto (-21), 3) := by decide +kernel
theorem dX9_init_101 : decode cX9_init 101 = .ok (.return_, 1) := by decide +kernel
set_option maxRecDepth 20000 in
theorem ggX9_setBase_X9_systemAt : GoodIn wsX9_setBase wsX9_systemAt := goodIn_r _ [7, 8, 70, 71, 72, 73, 74] (by decide +kernel) (by decide +kernel)
set_option maxRecDepth 20000 in
theorem gX9_setBase_X9_systemAt : GoodIn wsX9_setBase (wsV RX9 45 RX9 yX9_systemAt wsX9_systemAt) := goodIn_app (goodIn_of _ (by decide +kernel)) ggX9_setBase_X9_systemAt
set_option maxRecDepth 20000 in
theorem ggX9_setBase_X9_isBase : GoodIn wsX9_setBase wsX9_isBase := goodIn_r _ [11, 12, 13, 14, 15, 16, 17, 6, 18, 19, 20, 21, 22, 23, 24] (by decide +kernel) (by decide +kernel)
set_option maxRecDepth 20000 in
theorem gX9_setBase_X9_isBase : GoodIn wsX9_setBase (va_wsS RX9 50 yX9_isBase wsX9_isBase) := goodIn_app (goodIn_of _ (by decide +kernel)) ggX9_setBase_X9_isBase
set_option maxRecDepth 20000 in
theorem ggX9_setBase_X0_become : GoodIn wsX9_setBase wsX0_become := goodIn_r _ [28, 29, 30, 31, 13, 14, 15, 32, 33, 34, 35, 36, 37, 26, 38, 39, 40, 41, 42, 43, 44, 45, 46, 47, 48, 49, 50, 51, 52, 53, 54, 55, 56, 57, 63, 64, 65, 66, 67, 68, 69] (by decide +kernel) (by decide +kernel)
set_option maxRecDepth 20000 in
theorem gX9_setBase_X0_become_n59 : GoodIn wsX9_setBase (wsX0_become) := ggX9_setBase_X0_become
theorem dX9_setBase_0 : decode cX9_setBase 0 = .ok (.aload_n 0, 1) := by decide +kernel
theorem dX9_setBase_1 : decode cX9_setBase 1 = .ok (.iload_n 1, 1) := by decide +kernel
theorem dX9_setBase_2 : decode cX9_setBase 2 = .ok (.invokevirtual 45, 3) := by decide +kernel
theorem dX9_setBase_5 : decode cX9_setBase 5 = .ok (.astore 4, 2) := by decide +kernel
theorem dX9_setBase_7 : decode cX9_setBase 7 = .ok (.aload 4, 2) := by decide +kernel
theorem dX9_setBase_9 : decode cX9_setBase 9 = .ok (.ifnonnull 6, 3) := by decide +kernel
theorem dX9_setBase_12 : decode cX9_setBase 12 = .ok (.ldc 49, 2) := by decide +kernel
theorem dX9_setBase_14 : decode cX9_setBase 14 = .ok (.ireturn, 1) := by decide +kernel
theorem dX9_setBase_15 : decode cX9_setBase 15 = .ok (.iload_n 2, 1) := by decide +kernel
theorem dX9_setBase_16 : decode cX9_setBase 16 = .ok (.iload_n 3, 1) := by decide +kernel
theorem dX9_setBase_17 : decode cX9_setBase 17 = .ok (.invokestatic 50, 3) := by decide +kernel
theorem dX9_setBase_20 : decode cX9_setBase 20 = .ok (.ifCond .ne 6, 3) := by decide +kernel
theorem dX9_setBase_23 : decode cX9_setBase 23 = .ok (.ldc 54, 2) := by decide +kernel
theorem dX9_setBase_25 : decode cX9_setBase 25 = .ok (.ireturn, 1) := by decide +kernel
theorem dX9_setBase_26 : decode cX9_setBase 26 = .ok (.aload 4, 2) := by decide +kernel
theorem dX9_setBase_28 : decode cX9_setBase 28 = .ok (.getfield 55, 3) := by decide +kernel
theorem dX9_setBase_31 : decode cX9_setBase 31 = .ok (.iload_n 2, 1) := by decide +kernel
theorem dX9_setBase_32 : decode cX9_setBase 32 = .ok (.iload_n 3, 1) := by decide +kernel
theorem dX9_setBase_33 : decode cX9_setBase 33 = .ok (.invokevirtual 59, 3) := by decide +kernel
theorem dX9_setBase_36 : decode cX9_setBase 36 = .ok (.aload 4, 2) := by decide +kernel
theorem dX9_setBase_38 : decode cX9_setBase 38 = .ok (.getfield 55, 3) := by decide +kernel
theorem dX9_setBase_41 : decode cX9_setBase 41 = .ok (.getfield 65, 3) := by decide +kernel
theorem dX9_setBase_44 : decode cX9_setBase 44 = .ok (.ireturn, 1) := by decide +kernel
set_option maxRecDepth 20000 in
theorem ggX9_addDigit_X9_systemAt : GoodIn wsX9_addDigit wsX9_systemAt := goodIn_r _ [9, 10, 59, 60, 61, 62, 63] (by decide +kernel) (by decide +kernel)
set_option maxRecDepth 20000 in
theorem gX9_addDigit_X9_systemAt : GoodIn wsX9_addDigit (wsV RX9 45 RX9 yX9_systemAt wsX9_systemAt) := goodIn_app (goodIn_of _ (by decide +kernel)) ggX9_addDigit_X9_systemAt
set_option maxRecDepth 20000 in
theorem ggX9_addDigit_X9_isWithin : GoodIn wsX9_addDigit wsX9_isWithin := goodIn_r _ [13] (by decide +kernel) (by decide +kernel)
set_option maxRecDepth 20000 in
theorem gX9_addDigit_X9_isWithin : GoodIn wsX9_addDigit (va_wsS RX9 69 yX9_isWithin wsX9_isWithin) := goodIn_app (goodIn_of _ (by decide +kernel)) ggX9_addDigit_X9_isWithin
set_option maxRecDepth 20000 in
theorem ggX9_addDigit_X0_placeOf : GoodIn wsX9_addDigit wsX0_placeOf := goodIn_r _ [17, 18, 19, 52, 53, 54, 55, 56, 57, 58] (by decide +kernel) (by decide +kernel)
set_option maxRecDepth 20000 in
theorem gX9_addDigit_X0_placeOf_n72 : GoodIn wsX9_addDigit (wsX0_placeOf) := ggX9_addDigit_X0_placeOf
set_option maxRecDepth 20000 in
theorem ggX9_addDigit_X0_append : GoodIn wsX9_addDigit wsX0_append := goodIn_r _ [22, 18, 19, 23, 24, 25, 15, 26, 27, 28, 29, 30, 31, 32, 33, 34, 35, 36, 37, 38, 39, 40, 41, 42, 43, 44, 45, 46, 52, 53, 54, 55, 56, 57, 58] (by decide +kernel) (by decide +kernel)
set_option maxRecDepth 20000 in
theorem gX9_addDigit_X0_append_n81 : GoodIn wsX9_addDigit (wsX0_append) := ggX9_addDigit_X0_append
theorem dX9_addDigit_0 : decode cX9_addDigit 0 = .ok (.aload_n 0, 1) := by decide +kernel
theorem dX9_addDigit_1 : decode cX9_addDigit 1 = .ok (.iload_n 1, 1) := by decide +kernel
theorem dX9_addDigit_2 : decode cX9_addDigit 2 = .ok (.invokevirtual 45, 3) := by decide +kernel
theorem dX9_addDigit_5 : decode cX9_addDigit 5 = .ok (.astore_n 3, 1) := by decide +kernel
theorem dX9_addDigit_6 : decode cX9_addDigit 6 = .ok (.aload_n 3, 1) := by decide +kernel
theorem dX9_addDigit_7 : decode cX9_addDigit 7 = .ok (.ifnonnull 6, 3) := by decide +kernel
theorem dX9_addDigit_10 : decode cX9_addDigit 10 = .ok (.ldc 49, 2) := by decide +kernel
theorem dX9_addDigit_12 : decode cX9_addDigit 12 = .ok (.ireturn, 1) := by decide +kernel
theorem dX9_addDigit_13 : decode cX9_addDigit 13 = .ok (.iload_n 2, 1) := by decide +kernel
theorem dX9_addDigit_14 : decode cX9_addDigit 14 = .ok (.bipush 20, 2) := by decide +kernel
theorem dX9_addDigit_16 : decode cX9_addDigit 16 = .ok (.invokestatic 69, 3) := by decide +kernel
theorem dX9_addDigit_19 : decode cX9_addDigit 19 = .ok (.ifCond .ne 6, 3) := by decide +kernel
theorem dX9_addDigit_22 : decode cX9_addDigit 22 = .ok (.ldc 54, 2) := by decide +kernel
theorem dX9_addDigit_24 : decode cX9_addDigit 24 = .ok (.ireturn, 1) := by decide +kernel
theorem dX9_addDigit_25 : decode cX9_addDigit 25 = .ok (.aload_n 3, 1) := by decide +kernel
theorem dX9_addDigit_26 : decode cX9_addDigit 26 = .ok (.getfield 55, 3) := by decide +kernel
theorem dX9_addDigit_29 : decode cX9_addDigit 29 = .ok (.iload_n 2, 1) := by decide +kernel
theorem dX9_addDigit_30 : decode cX9_addDigit 30 = .ok (.invokevirtual 72, 3) := by decide +kernel
theorem dX9_addDigit_33 : decode cX9_addDigit 33 = .ok (.ifCond .lt 6, 3) := by decide +kernel
theorem dX9_addDigit_36 : decode cX9_addDigit 36 = .ok (.ldc 76, 2) := by decide +kernel
theorem dX9_addDigit_38 : decode cX9_addDigit 38 = .ok (.ireturn, 1) := by decide +kernel
theorem dX9_addDigit_39 : decode cX9_addDigit 39 = .ok (.aload_n 3, 1) := by decide +kernel
theorem dX9_addDigit_40 : decode cX9_addDigit 40 = .ok (.getfield 55, 3) := by decide +kernel
theorem dX9_addDigit_43 : decode cX9_addDigit 43 = .ok (.getfield 77, 3) := by decide +kernel
theorem dX9_addDigit_46 : decode cX9_addDigit 46 = .ok (.bipush 12, 2) := by decide +kernel
theorem dX9_addDigit_48 : decode cX9_addDigit 48 = .ok (.if_icmp .lt 6, 3) := by decide +kernel
theorem dX9_addDigit_51 : decode cX9_addDigit 51 = .ok (.ldc 80, 2) := by decide +kernel
theorem dX9_addDigit_53 : decode cX9_addDigit 53 = .ok (.ireturn, 1) := by decide +kernel
theorem dX9_addDigit_54 : decode cX9_addDigit 54 = .ok (.aload_n 3, 1) := by decide +kernel
theorem dX9_addDigit_55 : decode cX9_addDigit 55 = .ok (.getfield 55, 3) := by decide +kernel
theorem dX9_addDigit_58 : decode cX9_addDigit 58 = .ok (.iload_n 2, 1) := by decide +kernel
theorem dX9_addDigit_59 : decode cX9_addDigit 59 = .ok (.invokevirtual 81, 3) := by decide +kernel
theorem dX9_addDigit_62 : decode cX9_addDigit 62 = .ok (.aload_n 3, 1) := by decide +kernel
theorem dX9_addDigit_63 : decode cX9_addDigit 63 = .ok (.getfield 55, 3) := by decide +kernel
theorem dX9_addDigit_66 : decode cX9_addDigit 66 = .ok (.getfield 77, 3) := by decide +kernel
theorem dX9_addDigit_69 : decode cX9_addDigit 69 = .ok (.ireturn, 1) := by decide +kernel
set_option maxRecDepth 20000 in
theorem ggX9_removeDigit_X9_systemAt : GoodIn wsX9_removeDigit wsX9_systemAt := goodIn_r _ [7, 8, 54, 55, 56, 57, 58] (by decide +kernel) (by decide +kernel)
set_option maxRecDepth 20000 in
theorem gX9_removeDigit_X9_systemAt : GoodIn wsX9_removeDigit (wsV RX9 45 RX9 yX9_systemAt wsX9_systemAt) := goodIn_app (goodIn_of _ (by decide +kernel)) ggX9_removeDigit_X9_systemAt
set_option maxRecDepth 20000 in
theorem ggX9_removeDigit_X0_placeOf : GoodIn wsX9_removeDigit wsX0_placeOf := goodIn_r _ [12, 13, 14, 47, 48, 49, 50, 51, 52, 53] (by decide +kernel) (by decide +kernel)
set_option maxRecDepth 20000 in
theorem gX9_removeDigit_X0_placeOf_n72 : GoodIn wsX9_removeDigit (wsX0_placeOf) := ggX9_removeDigit_X0_placeOf
set_option maxRecDepth 20000 in
theorem ggX9_removeDigit_X0_removeAt : GoodIn wsX9_removeDigit wsX0_removeAt := goodIn_r _ [17, 13, 14, 18, 19, 20, 10, 21, 22, 23, 24, 25, 26, 27, 28, 29, 30, 31, 32, 33, 34, 35, 36, 37, 38, 39, 40, 41, 47, 48, 49, 50, 51, 52, 53] (by decide +kernel) (by decide +kernel)
set_option maxRecDepth 20000 in
theorem gX9_removeDigit_X0_removeAt_n85 : GoodIn wsX9_removeDigit (wsX0_removeAt) := ggX9_removeDigit_X0_removeAt
theorem dX9_removeDigit_0 : decode cX9_removeDigit 0 = .ok (.aload_n 0, 1) := by decide +kernel
theorem dX9_removeDigit_1 : decode cX9_removeDigit 1 = .ok (.iload_n 1, 1) := by decide +kernel
theorem dX9_removeDigit_2 : decode cX9_removeDigit 2 = .ok (.invokevirtual 45, 3) := by decide +kernel
theorem dX9_removeDigit_5 : decode cX9_removeDigit 5 = .ok (.astore_n 3, 1) := by decide +kernel
theorem dX9_removeDigit_6 : decode cX9_removeDigit 6 = .ok (.aload_n 3, 1) := by decide +kernel
theorem dX9_removeDigit_7 : decode cX9_removeDigit 7 = .ok (.ifnonnull 6, 3) := by decide +kernel
theorem dX9_removeDigit_10 : decode cX9_removeDigit 10 = .ok (.ldc 49, 2) := by decide +kernel
theorem dX9_removeDigit_12 : decode cX9_removeDigit 12 = .ok (.ireturn, 1) := by decide +kernel
theorem dX9_removeDigit_13 : decode cX9_removeDigit 13 = .ok (.aload_n 3, 1) := by decide +kernel
theorem dX9_removeDigit_14 : decode cX9_removeDigit 14 = .ok (.getfield 55, 3) := by decide +kernel
theorem dX9_removeDigit_17 : decode cX9_removeDigit 17 = .ok (.iload_n 2, 1) := by decide +kernel
theorem dX9_removeDigit_18 : decode cX9_removeDigit 18 = .ok (.invokevirtual 72, 3) := by decide +kernel
theorem dX9_removeDigit_21 : decode cX9_removeDigit 21 = .ok (.istore 4, 2) := by decide +kernel
theorem dX9_removeDigit_23 : decode cX9_removeDigit 23 = .ok (.iload 4, 2) := by decide +kernel
theorem dX9_removeDigit_25 : decode cX9_removeDigit 25 = .ok (.ifCond .ge 6, 3) := by decide +kernel
theorem dX9_removeDigit_28 : decode cX9_removeDigit 28 = .ok (.ldc 76, 2) := by decide +kernel
theorem dX9_removeDigit_30 : decode cX9_removeDigit 30 = .ok (.ireturn, 1) := by decide +kernel
theorem dX9_removeDigit_31 : decode cX9_removeDigit 31 = .ok (.aload_n 3, 1) := by decide +kernel
theorem dX9_removeDigit_32 : decode cX9_removeDigit 32 = .ok (.getfield 55, 3) := by decide +kernel
theorem dX9_removeDigit_35 : decode cX9_removeDigit 35 = .ok (.iload 4, 2) := by decide +kernel
theorem dX9_removeDigit_37 : decode cX9_removeDigit 37 = .ok (.invokevirtual 85, 3) := by decide +kernel
theorem dX9_removeDigit_40 : decode cX9_removeDigit 40 = .ok (.aload_n 3, 1) := by decide +kernel
theorem dX9_removeDigit_41 : decode cX9_removeDigit 41 = .ok (.getfield 55, 3) := by decide +kernel
theorem dX9_removeDigit_44 : decode cX9_removeDigit 44 = .ok (.getfield 77, 3) := by decide +kernel
theorem dX9_removeDigit_47 : decode cX9_removeDigit 47 = .ok (.ireturn, 1) := by decide +kernel
set_option maxRecDepth 20000 in
theorem ggX9_choose_X9_systemAt : GoodIn wsX9_choose wsX9_systemAt := goodIn_r _ [7, 8, 47, 48, 49, 50, 51] (by decide +kernel) (by decide +kernel)
set_option maxRecDepth 20000 in
theorem gX9_choose_X9_systemAt : GoodIn wsX9_choose (wsV RX9 45 RX9 yX9_systemAt wsX9_systemAt) := goodIn_app (goodIn_of _ (by decide +kernel)) ggX9_choose_X9_systemAt
set_option maxRecDepth 20000 in
theorem ggX9_choose_X0_placeOf : GoodIn wsX9_choose wsX0_placeOf := goodIn_r _ [12, 13, 14, 52, 53, 54, 55, 56, 57, 58] (by decide +kernel) (by decide +kernel)
set_option maxRecDepth 20000 in
theorem gX9_choose_X0_placeOf_n72 : GoodIn wsX9_choose (wsX0_placeOf) := ggX9_choose_X0_placeOf
set_option maxRecDepth 20000 in
theorem ggX9_choose_X0_moveToFront : GoodIn wsX9_choose wsX0_moveToFront := goodIn_r _ [17, 14, 18, 19, 20, 10, 21, 22, 23, 13, 24, 25, 26, 27, 28, 29, 30, 31, 32, 33, 34, 35, 36, 37, 38, 39, 40, 41, 52, 53, 54, 55, 56, 57, 58] (by decide +kernel) (by decide +kernel)
set_option maxRecDepth 20000 in
theorem gX9_choose_X0_moveToFront_n88 : GoodIn wsX9_choose (wsX0_moveToFront) := ggX9_choose_X0_moveToFront
theorem dX9_choose_0 : decode cX9_choose 0 = .ok (.aload_n 0, 1) := by decide +kernel
theorem dX9_choose_1 : decode cX9_choose 1 = .ok (.iload_n 1, 1) := by decide +kernel
theorem dX9_choose_2 : decode cX9_choose 2 = .ok (.invokevirtual 45, 3) := by decide +kernel
theorem dX9_choose_5 : decode cX9_choose 5 = .ok (.astore_n 3, 1) := by decide +kernel
theorem dX9_choose_6 : decode cX9_choose 6 = .ok (.aload_n 3, 1) := by decide +kernel
theorem dX9_choose_7 : decode cX9_choose 7 = .ok (.ifnonnull 6, 3) := by decide +kernel
theorem dX9_choose_10 : decode cX9_choose 10 = .ok (.ldc 49, 2) := by decide +kernel
theorem dX9_choose_12 : decode cX9_choose 12 = .ok (.ireturn, 1) := by decide +kernel
theorem dX9_choose_13 : decode cX9_choose 13 = .ok (.aload_n 3, 1) := by decide +kernel
theorem dX9_choose_14 : decode cX9_choose 14 = .ok (.getfield 55, 3) := by decide +kernel
theorem dX9_choose_17 : decode cX9_choose 17 = .ok (.iload_n 2, 1) := by decide +kernel
theorem dX9_choose_18 : decode cX9_choose 18 = .ok (.invokevirtual 72, 3) := by decide +kernel
theorem dX9_choose_21 : decode cX9_choose 21 = .ok (.istore 4, 2) := by decide +kernel
theorem dX9_choose_23 : decode cX9_choose 23 = .ok (.iload 4, 2) := by decide +kernel
theorem dX9_choose_25 : decode cX9_choose 25 = .ok (.ifCond .ge 6, 3) := by decide +kernel
theorem dX9_choose_28 : decode cX9_choose 28 = .ok (.ldc 76, 2) := by decide +kernel
theorem dX9_choose_30 : decode cX9_choose 30 = .ok (.ireturn, 1) := by decide +kernel
theorem dX9_choose_31 : decode cX9_choose 31 = .ok (.aload_n 3, 1) := by decide +kernel
theorem dX9_choose_32 : decode cX9_choose 32 = .ok (.getfield 55, 3) := by decide +kernel
theorem dX9_choose_35 : decode cX9_choose 35 = .ok (.iload 4, 2) := by decide +kernel
theorem dX9_choose_37 : decode cX9_choose 37 = .ok (.invokevirtual 88, 3) := by decide +kernel
theorem dX9_choose_40 : decode cX9_choose 40 = .ok (.iload 4, 2) := by decide +kernel
theorem dX9_choose_42 : decode cX9_choose 42 = .ok (.ireturn, 1) := by decide +kernel
set_option maxRecDepth 20000 in
theorem ggX9_digitAt_X9_systemAt : GoodIn wsX9_digitAt wsX9_systemAt := goodIn_r _ [6, 7, 25, 26, 27, 28, 29] (by decide +kernel) (by decide +kernel)
set_option maxRecDepth 20000 in
theorem gX9_digitAt_X9_systemAt : GoodIn wsX9_digitAt (wsV RX9 45 RX9 yX9_systemAt wsX9_systemAt) := goodIn_app (goodIn_of _ (by decide +kernel)) ggX9_digitAt_X9_systemAt
set_option maxRecDepth 20000 in
theorem ggX9_digitAt_X0_listed : GoodIn wsX9_digitAt wsX0_listed := goodIn_r _ [11, 12, 18, 19, 20, 21, 22, 23, 24] (by decide +kernel) (by decide +kernel)
set_option maxRecDepth 20000 in
theorem gX9_digitAt_X0_listed_n91 : GoodIn wsX9_digitAt (wsX0_listed) := ggX9_digitAt_X0_listed
theorem dX9_digitAt_0 : decode cX9_digitAt 0 = .ok (.aload_n 0, 1) := by decide +kernel
theorem dX9_digitAt_1 : decode cX9_digitAt 1 = .ok (.iload_n 1, 1) := by decide +kernel
theorem dX9_digitAt_2 : decode cX9_digitAt 2 = .ok (.invokevirtual 45, 3) := by decide +kernel
theorem dX9_digitAt_5 : decode cX9_digitAt 5 = .ok (.astore_n 3, 1) := by decide +kernel
theorem dX9_digitAt_6 : decode cX9_digitAt 6 = .ok (.aload_n 3, 1) := by decide +kernel
theorem dX9_digitAt_7 : decode cX9_digitAt 7 = .ok (.ifnull 18, 3) := by decide +kernel
theorem dX9_digitAt_10 : decode cX9_digitAt 10 = .ok (.iload_n 2, 1) := by decide +kernel
theorem dX9_digitAt_11 : decode cX9_digitAt 11 = .ok (.ifCond .lt 14, 3) := by decide +kernel
theorem dX9_digitAt_14 : decode cX9_digitAt 14 = .ok (.iload_n 2, 1) := by decide +kernel
theorem dX9_digitAt_15 : decode cX9_digitAt 15 = .ok (.aload_n 3, 1) := by decide +kernel
theorem dX9_digitAt_16 : decode cX9_digitAt 16 = .ok (.getfield 55, 3) := by decide +kernel
theorem dX9_digitAt_19 : decode cX9_digitAt 19 = .ok (.getfield 77, 3) := by decide +kernel
theorem dX9_digitAt_22 : decode cX9_digitAt 22 = .ok (.if_icmp .lt 6, 3) := by decide +kernel
theorem dX9_digitAt_25 : decode cX9_digitAt 25 = .ok (.ldc 49, 2) := by decide +kernel
theorem dX9_digitAt_27 : decode cX9_digitAt 27 = .ok (.ireturn, 1) := by decide +kernel
theorem dX9_digitAt_28 : decode cX9_digitAt 28 = .ok (.aload_n 3, 1) := by decide +kernel
theorem dX9_digitAt_29 : decode cX9_digitAt 29 = .ok (.getfield 55, 3) := by decide +kernel
theorem dX9_digitAt_32 : decode cX9_digitAt 32 = .ok (.iload_n 2, 1) := by decide +kernel
theorem dX9_digitAt_33 : decode cX9_digitAt 33 = .ok (.invokevirtual 91, 3) := by decide +kernel
theorem dX9_digitAt_36 : decode cX9_digitAt 36 = .ok (.ireturn, 1) := by decide +kernel
set_option maxRecDepth 20000 in
theorem ggX9_chosen_X9_systemAt : GoodIn wsX9_chosen wsX9_systemAt := goodIn_r _ [7, 8, 32, 33, 34, 35, 36] (by decide +kernel) (by decide +kernel)
set_option maxRecDepth 20000 in
theorem gX9_chosen_X9_systemAt : GoodIn wsX9_chosen (wsV RX9 45 RX9 yX9_systemAt wsX9_systemAt) := goodIn_app (goodIn_of _ (by decide +kernel)) ggX9_chosen_X9_systemAt
set_option maxRecDepth 20000 in
theorem ggX9_chosen_X0_digitFor : GoodIn wsX9_chosen wsX0_digitFor := goodIn_r _ [12, 13, 14, 15, 16, 17, 18, 19, 25, 26, 27, 28, 29, 30, 31] (by decide +kernel) (by decide +kernel)
set_option maxRecDepth 20000 in
theorem gX9_chosen_X0_digitFor_n94 : GoodIn wsX9_chosen (wsX0_digitFor) := ggX9_chosen_X0_digitFor
theorem dX9_chosen_0 : decode cX9_chosen 0 = .ok (.aload_n 0, 1) := by decide +kernel
theorem dX9_chosen_1 : decode cX9_chosen 1 = .ok (.iload_n 1, 1) := by decide +kernel
theorem dX9_chosen_2 : decode cX9_chosen 2 = .ok (.invokevirtual 45, 3) := by decide +kernel
theorem dX9_chosen_5 : decode cX9_chosen 5 = .ok (.astore_n 3, 1) := by decide +kernel
theorem dX9_chosen_6 : decode cX9_chosen 6 = .ok (.aload_n 3, 1) := by decide +kernel
theorem dX9_chosen_7 : decode cX9_chosen 7 = .ok (.ifnonnull 6, 3) := by decide +kernel
theorem dX9_chosen_10 : decode cX9_chosen 10 = .ok (.ldc 49, 2) := by decide +kernel
theorem dX9_chosen_12 : decode cX9_chosen 12 = .ok (.ireturn, 1) := by decide +kernel
theorem dX9_chosen_13 : decode cX9_chosen 13 = .ok (.iload_n 2, 1) := by decide +kernel
theorem dX9_chosen_14 : decode cX9_chosen 14 = .ok (.ifCond .lt 14, 3) := by decide +kernel
theorem dX9_chosen_17 : decode cX9_chosen 17 = .ok (.iload_n 2, 1) := by decide +kernel
theorem dX9_chosen_18 : decode cX9_chosen 18 = .ok (.aload_n 3, 1) := by decide +kernel
theorem dX9_chosen_19 : decode cX9_chosen 19 = .ok (.getfield 55, 3) := by decide +kernel
theorem dX9_chosen_22 : decode cX9_chosen 22 = .ok (.getfield 65, 3) := by decide +kernel
theorem dX9_chosen_25 : decode cX9_chosen 25 = .ok (.if_icmp .lt 6, 3) := by decide +kernel
theorem dX9_chosen_28 : decode cX9_chosen 28 = .ok (.ldc 54, 2) := by decide +kernel
theorem dX9_chosen_30 : decode cX9_chosen 30 = .ok (.ireturn, 1) := by decide +kernel
theorem dX9_chosen_31 : decode cX9_chosen 31 = .ok (.aload_n 3, 1) := by decide +kernel
theorem dX9_chosen_32 : decode cX9_chosen 32 = .ok (.getfield 55, 3) := by decide +kernel
theorem dX9_chosen_35 : decode cX9_chosen 35 = .ok (.iload_n 2, 1) := by decide +kernel
theorem dX9_chosen_36 : decode cX9_chosen 36 = .ok (.invokevirtual 94, 3) := by decide +kernel
theorem dX9_chosen_39 : decode cX9_chosen 39 = .ok (.ireturn, 1) := by decide +kernel
set_option maxRecDepth 20000 in
theorem ggX9_system_X9_systemAt : GoodIn wsX9_system wsX9_systemAt := goodIn_r _ [7, 8, 38, 39, 40, 41, 42] (by decide +kernel) (by decide +kernel)
set_option maxRecDepth 20000 in
theorem gX9_system_X9_systemAt : GoodIn wsX9_system (wsV RX9 45 RX9 yX9_systemAt wsX9_systemAt) := goodIn_app (goodIn_of _ (by decide +kernel)) ggX9_system_X9_systemAt
set_option maxRecDepth 20000 in
theorem ggX9_system_X0_greatestAbsoluteDigit : GoodIn wsX9_system wsX0_greatestAbsoluteDigit := goodIn_r _ [12, 13, 14, 15, 16, 17, 18, 19, 20, 21, 22, 23, 10, 24, 25, 31, 32, 33, 34, 35, 36, 37] (by decide +kernel) (by decide +kernel)
set_option maxRecDepth 20000 in
theorem gX9_system_X0_greatestAbsoluteDigit_n107 : GoodIn wsX9_system (wsX0_greatestAbsoluteDigit) := ggX9_system_X0_greatestAbsoluteDigit
theorem dX9_system_0 : decode cX9_system 0 = .ok (.aload_n 0, 1) := by decide +kernel
theorem dX9_system_1 : decode cX9_system 1 = .ok (.iload_n 1, 1) := by decide +kernel
theorem dX9_system_2 : decode cX9_system 2 = .ok (.invokevirtual 45, 3) := by decide +kernel
theorem dX9_system_5 : decode cX9_system 5 = .ok (.astore_n 3, 1) := by decide +kernel
theorem dX9_system_6 : decode cX9_system 6 = .ok (.aload_n 3, 1) := by decide +kernel
theorem dX9_system_7 : decode cX9_system 7 = .ok (.ifnonnull 6, 3) := by decide +kernel
theorem dX9_system_10 : decode cX9_system 10 = .ok (.ldc 49, 2) := by decide +kernel
theorem dX9_system_12 : decode cX9_system 12 = .ok (.ireturn, 1) := by decide +kernel
theorem dX9_system_13 : decode cX9_system 13 = .ok (.iload_n 2, 1) := by decide +kernel
theorem dX9_system_14 : decode cX9_system 14 = .ok (.tableswitch 82 0 4 #[34, 42, 50, 58, 74], 34) := by decide +kernel
theorem dX9_system_48 : decode cX9_system 48 = .ok (.aload_n 3, 1) := by decide +kernel
theorem dX9_system_49 : decode cX9_system 49 = .ok (.getfield 55, 3) := by decide +kernel
theorem dX9_system_52 : decode cX9_system 52 = .ok (.getfield 97, 3) := by decide +kernel
theorem dX9_system_55 : decode cX9_system 55 = .ok (.ireturn, 1) := by decide +kernel
theorem dX9_system_56 : decode cX9_system 56 = .ok (.aload_n 3, 1) := by decide +kernel
theorem dX9_system_57 : decode cX9_system 57 = .ok (.getfield 55, 3) := by decide +kernel
theorem dX9_system_60 : decode cX9_system 60 = .ok (.getfield 100, 3) := by decide +kernel
theorem dX9_system_63 : decode cX9_system 63 = .ok (.ireturn, 1) := by decide +kernel
theorem dX9_system_64 : decode cX9_system 64 = .ok (.aload_n 3, 1) := by decide +kernel
theorem dX9_system_65 : decode cX9_system 65 = .ok (.getfield 55, 3) := by decide +kernel
theorem dX9_system_68 : decode cX9_system 68 = .ok (.getfield 77, 3) := by decide +kernel
theorem dX9_system_71 : decode cX9_system 71 = .ok (.ireturn, 1) := by decide +kernel
theorem dX9_system_72 : decode cX9_system 72 = .ok (.aload_n 3, 1) := by decide +kernel
theorem dX9_system_73 : decode cX9_system 73 = .ok (.getfield 55, 3) := by decide +kernel
theorem dX9_system_76 : decode cX9_system 76 = .ok (.getfield 103, 3) := by decide +kernel
theorem dX9_system_79 : decode cX9_system 79 = .ok (.ifCond .eq 7, 3) := by decide +kernel
theorem dX9_system_82 : decode cX9_system 82 = .ok (.iconst 1, 1) := by decide +kernel
theorem dX9_system_83 : decode cX9_system 83 = .ok (.goto 4, 3) := by decide +kernel
theorem dX9_system_86 : decode cX9_system 86 = .ok (.iconst 0, 1) := by decide +kernel
theorem dX9_system_87 : decode cX9_system 87 = .ok (.ireturn, 1) := by decide +kernel
theorem dX9_system_88 : decode cX9_system 88 = .ok (.aload_n 3, 1) := by decide +kernel
theorem dX9_system_89 : decode cX9_system 89 = .ok (.getfield 55, 3) := by decide +kernel
theorem dX9_system_92 : decode cX9_system 92 = .ok (.invokevirtual 107, 3) := by decide +kernel
theorem dX9_system_95 : decode cX9_system 95 = .ok (.ireturn, 1) := by decide +kernel
theorem dX9_system_96 : decode cX9_system 96 = .ok (.ldc 54, 2) := by decide +kernel
theorem dX9_system_98 : decode cX9_system 98 = .ok (.ireturn, 1) := by decide +kernel
set_option maxRecDepth 20000 in
theorem ggX9_digit_X9_tellOfExpansion : GoodIn wsX9_digit wsX9_tellOfExpansion := goodIn_r _ [5, 6, 7, 8, 9, 10, 11, 12, 13, 14, 15, 4, 16, 17, 18, 19, 20, 21, 22, 23, 24, 25, 26, 27, 28, 29, 30, 31, 32, 33, 34, 35, 36, 37, 38, 39, 40, 41, 42, 43, 44, 45, 46, 47, 48, 49, 50, 51, 52, 53, 54, 55, 56, 57, 58, 59, 60, 61, 62, 63, 64, 65, 66, 67, 68, 69, 70, 71, 72, 73, 74, 75, 76, 77, 78, 79, 80, 81, 82, 83, 84, 85, 86, 87, 88, 89, 90, 91, 92, 93, 94, 95, 96, 97, 98, 99, 100, 101, 102, 103, 104, 105, 106, 107, 108, 109, 110, 111, 112, 113] (by decide +kernel) (by decide +kernel)
set_option maxRecDepth 20000 in
theorem gX9_digit_X9_tellOfExpansion : GoodIn wsX9_digit (wsV RX9 111 RX9 yX9_tellOfExpansion wsX9_tellOfExpansion) := goodIn_app (goodIn_of _ (by decide +kernel)) ggX9_digit_X9_tellOfExpansion
theorem dX9_digit_0 : decode cX9_digit 0 = .ok (.aload_n 0, 1) := by decide +kernel
theorem dX9_digit_1 : decode cX9_digit 1 = .ok (.iconst 0, 1) := by decide +kernel
theorem dX9_digit_2 : decode cX9_digit 2 = .ok (.iload_n 1, 1) := by decide +kernel
theorem dX9_digit_3 : decode cX9_digit 3 = .ok (.iload_n 2, 1) := by decide +kernel
theorem dX9_digit_4 : decode cX9_digit 4 = .ok (.iload_n 3, 1) := by decide +kernel
theorem dX9_digit_5 : decode cX9_digit 5 = .ok (.iload 4, 2) := by decide +kernel
theorem dX9_digit_7 : decode cX9_digit 7 = .ok (.invokevirtual 111, 3) := by decide +kernel
theorem dX9_digit_10 : decode cX9_digit 10 = .ok (.ireturn, 1) := by decide +kernel
set_option maxRecDepth 20000 in
theorem ggX9_numerator_X9_tellOfExpansion : GoodIn wsX9_numerator wsX9_tellOfExpansion := goodIn_r _ [5, 6, 7, 8, 9, 10, 11, 12, 13, 14, 15, 4, 16, 17, 18, 19, 20, 21, 22, 23, 24, 25, 26, 27, 28, 29, 30, 31, 32, 33, 34, 35, 36, 37, 38, 39, 40, 41, 42, 43, 44, 45, 46, 47, 48, 49, 50, 51, 52, 53, 54, 55, 56, 57, 58, 59, 60, 61, 62, 63, 64, 65, 66, 67, 68, 69, 70, 71, 72, 73, 74, 75, 76, 77, 78, 79, 80, 81, 82, 83, 84, 85, 86, 87, 88, 89, 90, 91, 92, 93, 94, 95, 96, 97, 98, 99, 100, 101, 102, 103, 104, 105, 106, 107, 108, 109, 110, 111, 112, 113] (by decide +kernel) (by decide +kernel)
set_option maxRecDepth 20000 in
theorem gX9_numerator_X9_tellOfExpansion : GoodIn wsX9_numerator (wsV RX9 111 RX9 yX9_tellOfExpansion wsX9_tellOfExpansion) := goodIn_app (goodIn_of _ (by decide +kernel)) ggX9_numerator_X9_tellOfExpansion
theorem dX9_numerator_0 : decode cX9_numerator 0 = .ok (.aload_n 0, 1) := by decide +kernel
theorem dX9_numerator_1 : decode cX9_numerator 1 = .ok (.iconst 1, 1) := by decide +kernel
theorem dX9_numerator_2 : decode cX9_numerator 2 = .ok (.iload_n 1, 1) := by decide +kernel
theorem dX9_numerator_3 : decode cX9_numerator 3 = .ok (.iload_n 2, 1) := by decide +kernel
theorem dX9_numerator_4 : decode cX9_numerator 4 = .ok (.iload_n 3, 1) := by decide +kernel
theorem dX9_numerator_5 : decode cX9_numerator 5 = .ok (.iload 4, 2) := by decide +kernel
theorem dX9_numerator_7 : decode cX9_numerator 7 = .ok (.invokevirtual 111, 3) := by decide +kernel
theorem dX9_numerator_10 : decode cX9_numerator 10 = .ok (.ireturn, 1) := by decide +kernel
set_option maxRecDepth 20000 in
theorem ggX9_preperiod_X9_tellOfExpansion : GoodIn wsX9_preperiod wsX9_tellOfExpansion := goodIn_r _ [5, 6, 7, 8, 9, 10, 11, 12, 13, 14, 15, 4, 16, 17, 18, 19, 20, 21, 22, 23, 24, 25, 26, 27, 28, 29, 30, 31, 32, 33, 34, 35, 36, 37, 38, 39, 40, 41, 42, 43, 44, 45, 46, 47, 48, 49, 50, 51, 52, 53, 54, 55, 56, 57, 58, 59, 60, 61, 62, 63, 64, 65, 66, 67, 68, 69, 70, 71, 72, 73, 74, 75, 76, 77, 78, 79, 80, 81, 82, 83, 84, 85, 86, 87, 88, 89, 90, 91, 92, 93, 94, 95, 96, 97, 98, 99, 100, 101, 102, 103, 104, 105, 106, 107, 108, 109, 110, 111, 112, 113] (by decide +kernel) (by decide +kernel)
set_option maxRecDepth 20000 in
theorem gX9_preperiod_X9_tellOfExpansion : GoodIn wsX9_preperiod (wsV RX9 111 RX9 yX9_tellOfExpansion wsX9_tellOfExpansion) := goodIn_app (goodIn_of _ (by decide +kernel)) ggX9_preperiod_X9_tellOfExpansion
theorem dX9_preperiod_0 : decode cX9_preperiod 0 = .ok (.aload_n 0, 1) := by decide +kernel
theorem dX9_preperiod_1 : decode cX9_preperiod 1 = .ok (.iconst 2, 1) := by decide +kernel
theorem dX9_preperiod_2 : decode cX9_preperiod 2 = .ok (.iload_n 1, 1) := by decide +kernel
theorem dX9_preperiod_3 : decode cX9_preperiod 3 = .ok (.iload_n 2, 1) := by decide +kernel
theorem dX9_preperiod_4 : decode cX9_preperiod 4 = .ok (.iload_n 3, 1) := by decide +kernel
theorem dX9_preperiod_5 : decode cX9_preperiod 5 = .ok (.iconst 0, 1) := by decide +kernel
theorem dX9_preperiod_6 : decode cX9_preperiod 6 = .ok (.invokevirtual 111, 3) := by decide +kernel
theorem dX9_preperiod_9 : decode cX9_preperiod 9 = .ok (.ireturn, 1) := by decide +kernel
set_option maxRecDepth 20000 in
theorem ggX9_period_X9_tellOfExpansion : GoodIn wsX9_period wsX9_tellOfExpansion := goodIn_r _ [5, 6, 7, 8, 9, 10, 11, 12, 13, 14, 15, 4, 16, 17, 18, 19, 20, 21, 22, 23, 24, 25, 26, 27, 28, 29, 30, 31, 32, 33, 34, 35, 36, 37, 38, 39, 40, 41, 42, 43, 44, 45, 46, 47, 48, 49, 50, 51, 52, 53, 54, 55, 56, 57, 58, 59, 60, 61, 62, 63, 64, 65, 66, 67, 68, 69, 70, 71, 72, 73, 74, 75, 76, 77, 78, 79, 80, 81, 82, 83, 84, 85, 86, 87, 88, 89, 90, 91, 92, 93, 94, 95, 96, 97, 98, 99, 100, 101, 102, 103, 104, 105, 106, 107, 108, 109, 110, 111, 112, 113] (by decide +kernel) (by decide +kernel)
set_option maxRecDepth 20000 in
theorem gX9_period_X9_tellOfExpansion : GoodIn wsX9_period (wsV RX9 111 RX9 yX9_tellOfExpansion wsX9_tellOfExpansion) := goodIn_app (goodIn_of _ (by decide +kernel)) ggX9_period_X9_tellOfExpansion
theorem dX9_period_0 : decode cX9_period 0 = .ok (.aload_n 0, 1) := by decide +kernel
theorem dX9_period_1 : decode cX9_period 1 = .ok (.iconst 3, 1) := by decide +kernel
theorem dX9_period_2 : decode cX9_period 2 = .ok (.iload_n 1, 1) := by decide +kernel
theorem dX9_period_3 : decode cX9_period 3 = .ok (.iload_n 2, 1) := by decide +kernel
theorem dX9_period_4 : decode cX9_period 4 = .ok (.iload_n 3, 1) := by decide +kernel
theorem dX9_period_5 : decode cX9_period 5 = .ok (.iconst 0, 1) := by decide +kernel
theorem dX9_period_6 : decode cX9_period 6 = .ok (.invokevirtual 111, 3) := by decide +kernel
theorem dX9_period_9 : decode cX9_period 9 = .ok (.ireturn, 1) := by decide +kernel
set_option maxRecDepth 20000 in
theorem ggX9_length_X9_tellOfExpansion : GoodIn wsX9_length wsX9_tellOfExpansion := goodIn_r _ [5, 6, 7, 8, 9, 10, 11, 12, 13, 14, 15, 4, 16, 17, 18, 19, 20, 21, 22, 23, 24, 25, 26, 27, 28, 29, 30, 31, 32, 33, 34, 35, 36, 37, 38, 39, 40, 41, 42, 43, 44, 45, 46, 47, 48, 49, 50, 51, 52, 53, 54, 55, 56, 57, 58, 59, 60, 61, 62, 63, 64, 65, 66, 67, 68, 69, 70, 71, 72, 73, 74, 75, 76, 77, 78, 79, 80, 81, 82, 83, 84, 85, 86, 87, 88, 89, 90, 91, 92, 93, 94, 95, 96, 97, 98, 99, 100, 101, 102, 103, 104, 105, 106, 107, 108, 109, 110, 111, 112, 113] (by decide +kernel) (by decide +kernel)
set_option maxRecDepth 20000 in
theorem gX9_length_X9_tellOfExpansion : GoodIn wsX9_length (wsV RX9 111 RX9 yX9_tellOfExpansion wsX9_tellOfExpansion) := goodIn_app (goodIn_of _ (by decide +kernel)) ggX9_length_X9_tellOfExpansion
theorem dX9_length_0 : decode cX9_length 0 = .ok (.aload_n 0, 1) := by decide +kernel
theorem dX9_length_1 : decode cX9_length 1 = .ok (.iconst 4, 1) := by decide +kernel
theorem dX9_length_2 : decode cX9_length 2 = .ok (.iload_n 1, 1) := by decide +kernel
theorem dX9_length_3 : decode cX9_length 3 = .ok (.iload_n 2, 1) := by decide +kernel
theorem dX9_length_4 : decode cX9_length 4 = .ok (.iload_n 3, 1) := by decide +kernel
theorem dX9_length_5 : decode cX9_length 5 = .ok (.iconst 0, 1) := by decide +kernel
theorem dX9_length_6 : decode cX9_length 6 = .ok (.invokevirtual 111, 3) := by decide +kernel
theorem dX9_length_9 : decode cX9_length 9 = .ok (.ireturn, 1) := by decide +kernel
set_option maxRecDepth 20000 in
theorem ggX9_cycleCount_X9_systemAt : GoodIn wsX9_cycleCount wsX9_systemAt := goodIn_r _ [7, 8, 51, 52, 53, 54, 55] (by decide +kernel) (by decide +kernel)
set_option maxRecDepth 20000 in
theorem gX9_cycleCount_X9_systemAt : GoodIn wsX9_cycleCount (wsV RX9 45 RX9 yX9_systemAt wsX9_systemAt) := goodIn_app (goodIn_of _ (by decide +kernel)) ggX9_cycleCount_X9_systemAt
set_option maxRecDepth 20000 in
theorem ggX9_cycleCount_X3_countUpTo : GoodIn wsX9_cycleCount wsX3_countUpTo := goodIn_r _ [12, 13, 14, 15, 10, 16, 17, 18, 19, 20, 21, 22, 23, 24, 25, 26, 27, 28, 29, 30, 31, 32, 33, 34, 35, 36, 37, 38, 56, 44, 45, 46, 47, 48, 49, 50] (by decide +kernel) (by decide +kernel)
set_option maxRecDepth 20000 in
theorem gX9_cycleCount_X3_countUpTo_n120 : GoodIn wsX9_cycleCount (wsX3_countUpTo) := ggX9_cycleCount_X3_countUpTo
theorem dX9_cycleCount_0 : decode cX9_cycleCount 0 = .ok (.aload_n 0, 1) := by decide +kernel
theorem dX9_cycleCount_1 : decode cX9_cycleCount 1 = .ok (.iload_n 1, 1) := by decide +kernel
theorem dX9_cycleCount_2 : decode cX9_cycleCount 2 = .ok (.invokevirtual 45, 3) := by decide +kernel
theorem dX9_cycleCount_5 : decode cX9_cycleCount 5 = .ok (.astore_n 2, 1) := by decide +kernel
theorem dX9_cycleCount_6 : decode cX9_cycleCount 6 = .ok (.aload_n 2, 1) := by decide +kernel
theorem dX9_cycleCount_7 : decode cX9_cycleCount 7 = .ok (.ifnonnull 6, 3) := by decide +kernel
theorem dX9_cycleCount_10 : decode cX9_cycleCount 10 = .ok (.ldc 49, 2) := by decide +kernel
theorem dX9_cycleCount_12 : decode cX9_cycleCount 12 = .ok (.ireturn, 1) := by decide +kernel
theorem dX9_cycleCount_13 : decode cX9_cycleCount 13 = .ok (.aload_n 2, 1) := by decide +kernel
theorem dX9_cycleCount_14 : decode cX9_cycleCount 14 = .ok (.getfield 55, 3) := by decide +kernel
theorem dX9_cycleCount_17 : decode cX9_cycleCount 17 = .ok (.getfield 103, 3) := by decide +kernel
theorem dX9_cycleCount_20 : decode cX9_cycleCount 20 = .ok (.ifCond .ne 6, 3) := by decide +kernel
theorem dX9_cycleCount_23 : decode cX9_cycleCount 23 = .ok (.ldc 115, 2) := by decide +kernel
theorem dX9_cycleCount_25 : decode cX9_cycleCount 25 = .ok (.ireturn, 1) := by decide +kernel
theorem dX9_cycleCount_26 : decode cX9_cycleCount 26 = .ok (.aload_n 2, 1) := by decide +kernel
theorem dX9_cycleCount_27 : decode cX9_cycleCount 27 = .ok (.getfield 116, 3) := by decide +kernel
theorem dX9_cycleCount_30 : decode cX9_cycleCount 30 = .ok (.bipush 20, 2) := by decide +kernel
theorem dX9_cycleCount_32 : decode cX9_cycleCount 32 = .ok (.invokevirtual 120, 3) := by decide +kernel
theorem dX9_cycleCount_35 : decode cX9_cycleCount 35 = .ok (.ireturn, 1) := by decide +kernel
set_option maxRecDepth 20000 in
theorem ggX9_cycle_X9_systemAt : GoodIn wsX9_cycle wsX9_systemAt := goodIn_r _ [9, 10, 67, 68, 69, 70, 71] (by decide +kernel) (by decide +kernel)
set_option maxRecDepth 20000 in
theorem gX9_cycle_X9_systemAt : GoodIn wsX9_cycle (wsV RX9 45 RX9 yX9_systemAt wsX9_systemAt) := goodIn_app (goodIn_of _ (by decide +kernel)) ggX9_cycle_X9_systemAt
set_option maxRecDepth 20000 in
theorem ggX9_cycle_X3_countUpTo : GoodIn wsX9_cycle wsX3_countUpTo := goodIn_r _ [14, 15, 16, 17, 12, 18, 19, 20, 21, 22, 23, 24, 25, 26, 27, 28, 29, 30, 31, 32, 33, 34, 35, 36, 37, 38, 39, 40, 72, 60, 61, 62, 63, 64, 65, 66] (by decide +kernel) (by decide +kernel)
set_option maxRecDepth 20000 in
theorem gX9_cycle_X3_countUpTo_n120 : GoodIn wsX9_cycle (wsX3_countUpTo) := ggX9_cycle_X3_countUpTo
set_option maxRecDepth 20000 in
theorem ggX9_cycle_X3_leastOf : GoodIn wsX9_cycle wsX3_leastOf := goodIn_r _ [43, 44, 15, 16, 17, 12, 18, 19, 20, 21, 22, 23, 24, 25, 26, 27, 28, 29, 30, 31, 32, 33, 34, 35, 36, 37, 38, 39, 40, 72, 60, 61, 62, 63, 64, 65, 66] (by decide +kernel) (by decide +kernel)
set_option maxRecDepth 20000 in
theorem gX9_cycle_X3_leastOf_n126 : GoodIn wsX9_cycle (wsX3_leastOf) := ggX9_cycle_X3_leastOf
set_option maxRecDepth 20000 in
theorem ggX9_cycle_X3_elementsFrom : GoodIn wsX9_cycle wsX3_elementsFrom := goodIn_r _ [47, 19, 20, 21, 22, 23, 24, 25, 26, 27, 28, 29, 30, 31, 32, 33, 34, 35, 36, 37, 38, 39, 40, 72, 60, 61, 62, 63, 64, 65, 66] (by decide +kernel) (by decide +kernel)
set_option maxRecDepth 20000 in
theorem gX9_cycle_X3_elementsFrom_n129 : GoodIn wsX9_cycle (wsX3_elementsFrom) := ggX9_cycle_X3_elementsFrom
set_option maxRecDepth 20000 in
theorem ggX9_cycle_X3_greatestFrom : GoodIn wsX9_cycle wsX3_greatestFrom := goodIn_r _ [50, 19, 51, 52, 53, 54, 20, 21, 22, 23, 24, 25, 26, 27, 28, 29, 30, 31, 32, 33, 34, 35, 36, 37, 38, 39, 40, 72, 60, 61, 62, 63, 64, 65, 66] (by decide +kernel) (by decide +kernel)
set_option maxRecDepth 20000 in
theorem gX9_cycle_X3_greatestFrom_n132 : GoodIn wsX9_cycle (wsX3_greatestFrom) := ggX9_cycle_X3_greatestFrom
theorem dX9_cycle_0 : decode cX9_cycle 0 = .ok (.aload_n 0, 1) := by decide +kernel
theorem dX9_cycle_1 : decode cX9_cycle 1 = .ok (.iload_n 1, 1) := by decide +kernel
theorem dX9_cycle_2 : decode cX9_cycle 2 = .ok (.invokevirtual 45, 3) := by decide +kernel
theorem dX9_cycle_5 : decode cX9_cycle 5 = .ok (.astore 4, 2) := by decide +kernel
theorem dX9_cycle_7 : decode cX9_cycle 7 = .ok (.aload 4, 2) := by decide +kernel
theorem dX9_cycle_9 : decode cX9_cycle 9 = .ok (.ifnonnull 6, 3) := by decide +kernel
theorem dX9_cycle_12 : decode cX9_cycle 12 = .ok (.ldc 49, 2) := by decide +kernel
theorem dX9_cycle_14 : decode cX9_cycle 14 = .ok (.ireturn, 1) := by decide +kernel
theorem dX9_cycle_15 : decode cX9_cycle 15 = .ok (.iload_n 2, 1) := by decide +kernel
theorem dX9_cycle_16 : decode cX9_cycle 16 = .ok (.ifCond .lt 12, 3) := by decide +kernel
theorem dX9_cycle_19 : decode cX9_cycle 19 = .ok (.iload_n 3, 1) := by decide +kernel
theorem dX9_cycle_20 : decode cX9_cycle 20 = .ok (.ifCond .lt 8, 3) := by decide +kernel
theorem dX9_cycle_23 : decode cX9_cycle 23 = .ok (.iload_n 3, 1) := by decide +kernel
theorem dX9_cycle_24 : decode cX9_cycle 24 = .ok (.iconst 2, 1) := by decide +kernel
theorem dX9_cycle_25 : decode cX9_cycle 25 = .ok (.if_icmp .le 6, 3) := by decide +kernel
theorem dX9_cycle_28 : decode cX9_cycle 28 = .ok (.ldc 54, 2) := by decide +kernel
theorem dX9_cycle_30 : decode cX9_cycle 30 = .ok (.ireturn, 1) := by decide +kernel
theorem dX9_cycle_31 : decode cX9_cycle 31 = .ok (.aload 4, 2) := by decide +kernel
theorem dX9_cycle_33 : decode cX9_cycle 33 = .ok (.getfield 55, 3) := by decide +kernel
theorem dX9_cycle_36 : decode cX9_cycle 36 = .ok (.getfield 103, 3) := by decide +kernel
theorem dX9_cycle_39 : decode cX9_cycle 39 = .ok (.ifCond .ne 6, 3) := by decide +kernel
theorem dX9_cycle_42 : decode cX9_cycle 42 = .ok (.ldc 115, 2) := by decide +kernel
theorem dX9_cycle_44 : decode cX9_cycle 44 = .ok (.ireturn, 1) := by decide +kernel
theorem dX9_cycle_45 : decode cX9_cycle 45 = .ok (.iload_n 2, 1) := by decide +kernel
theorem dX9_cycle_46 : decode cX9_cycle 46 = .ok (.aload 4, 2) := by decide +kernel
theorem dX9_cycle_48 : decode cX9_cycle 48 = .ok (.getfield 116, 3) := by decide +kernel
theorem dX9_cycle_51 : decode cX9_cycle 51 = .ok (.bipush 20, 2) := by decide +kernel
theorem dX9_cycle_53 : decode cX9_cycle 53 = .ok (.invokevirtual 120, 3) := by decide +kernel
theorem dX9_cycle_56 : decode cX9_cycle 56 = .ok (.if_icmp .lt 6, 3) := by decide +kernel
theorem dX9_cycle_59 : decode cX9_cycle 59 = .ok (.ldc 125, 2) := by decide +kernel
theorem dX9_cycle_61 : decode cX9_cycle 61 = .ok (.ireturn, 1) := by decide +kernel
theorem dX9_cycle_62 : decode cX9_cycle 62 = .ok (.aload 4, 2) := by decide +kernel
theorem dX9_cycle_64 : decode cX9_cycle 64 = .ok (.getfield 116, 3) := by decide +kernel
theorem dX9_cycle_67 : decode cX9_cycle 67 = .ok (.iload_n 2, 1) := by decide +kernel
theorem dX9_cycle_68 : decode cX9_cycle 68 = .ok (.invokevirtual 126, 3) := by decide +kernel
theorem dX9_cycle_71 : decode cX9_cycle 71 = .ok (.istore 5, 2) := by decide +kernel
theorem dX9_cycle_73 : decode cX9_cycle 73 = .ok (.iload_n 3, 1) := by decide +kernel
theorem dX9_cycle_74 : decode cX9_cycle 74 = .ok (.lookupswitch 40 #[(0, 26), (1, 29)], 26) := by decide +kernel
theorem dX9_cycle_100 : decode cX9_cycle 100 = .ok (.iload 5, 2) := by decide +kernel
theorem dX9_cycle_102 : decode cX9_cycle 102 = .ok (.ireturn, 1) := by decide +kernel
theorem dX9_cycle_103 : decode cX9_cycle 103 = .ok (.aload 4, 2) := by decide +kernel
theorem dX9_cycle_105 : decode cX9_cycle 105 = .ok (.getfield 116, 3) := by decide +kernel
theorem dX9_cycle_108 : decode cX9_cycle 108 = .ok (.iload 5, 2) := by decide +kernel
theorem dX9_cycle_110 : decode cX9_cycle 110 = .ok (.invokevirtual 129, 3) := by decide +kernel
theorem dX9_cycle_113 : decode cX9_cycle 113 = .ok (.ireturn, 1) := by decide +kernel
theorem dX9_cycle_114 : decode cX9_cycle 114 = .ok (.aload 4, 2) := by decide +kernel
theorem dX9_cycle_116 : decode cX9_cycle 116 = .ok (.getfield 116, 3) := by decide +kernel
theorem dX9_cycle_119 : decode cX9_cycle 119 = .ok (.iload 5, 2) := by decide +kernel
theorem dX9_cycle_121 : decode cX9_cycle 121 = .ok (.invokevirtual 132, 3) := by decide +kernel
theorem dX9_cycle_124 : decode cX9_cycle 124 = .ok (.ireturn, 1) := by decide +kernel
set_option maxRecDepth 20000 in
theorem ggX9_leadsTo_X9_systemAt : GoodIn wsX9_leadsTo wsX9_systemAt := goodIn_r _ [9, 10, 106, 107, 108, 109, 110] (by decide +kernel) (by decide +kernel)
set_option maxRecDepth 20000 in
theorem gX9_leadsTo_X9_systemAt : GoodIn wsX9_leadsTo (wsV RX9 45 RX9 yX9_systemAt wsX9_systemAt) := goodIn_app (goodIn_of _ (by decide +kernel)) ggX9_leadsTo_X9_systemAt
set_option maxRecDepth 20000 in
theorem ggX9_leadsTo_X9_isWithin : GoodIn wsX9_leadsTo wsX9_isWithin := goodIn_r _ [13] (by decide +kernel) (by decide +kernel)
set_option maxRecDepth 20000 in
theorem gX9_leadsTo_X9_isWithin : GoodIn wsX9_leadsTo (va_wsS RX9 69 yX9_isWithin wsX9_isWithin) := goodIn_app (goodIn_of _ (by decide +kernel)) ggX9_leadsTo_X9_isWithin
set_option maxRecDepth 20000 in
theorem ggX9_leadsTo_X7_begin : GoodIn wsX9_leadsTo wsX7_begin := goodIn_r _ [17, 18, 19, 20, 21, 22, 23, 24, 15, 25, 26, 27, 28, 29, 30, 31, 32, 33, 34, 35, 36, 37, 38, 39, 40, 41, 42, 43, 44, 45, 46, 47, 48, 49, 50, 51, 52, 53, 54, 55, 56, 57, 58, 59, 60, 61, 62, 63, 99, 100, 101, 102, 103, 104, 105, 92, 93, 94, 95, 96, 97, 98] (by decide +kernel) (by decide +kernel)
set_option maxRecDepth 20000 in
theorem gX9_leadsTo_X7_begin_n140 : GoodIn wsX9_leadsTo (wsX7_begin) := ggX9_leadsTo_X7_begin
set_option maxRecDepth 20000 in
theorem ggX9_leadsTo_X3_numberOf : GoodIn wsX9_leadsTo wsX3_numberOf := goodIn_r _ [67, 68, 69, 70, 71, 72, 73, 28, 74, 75, 76, 77, 45, 46, 47, 31, 48, 49, 32, 33, 34, 35, 78, 50, 51, 52, 53, 79, 80, 81, 65, 82, 83, 84, 85, 86, 111, 92, 93, 94, 95, 96, 97, 98] (by decide +kernel) (by decide +kernel)
set_option maxRecDepth 20000 in
theorem gX9_leadsTo_X3_numberOf_n148 : GoodIn wsX9_leadsTo (wsX3_numberOf) := ggX9_leadsTo_X3_numberOf
theorem dX9_leadsTo_0 : decode cX9_leadsTo 0 = .ok (.aload_n 0, 1) := by decide +kernel
theorem dX9_leadsTo_1 : decode cX9_leadsTo 1 = .ok (.iload_n 1, 1) := by decide +kernel
theorem dX9_leadsTo_2 : decode cX9_leadsTo 2 = .ok (.invokevirtual 45, 3) := by decide +kernel
theorem dX9_leadsTo_5 : decode cX9_leadsTo 5 = .ok (.astore_n 3, 1) := by decide +kernel
theorem dX9_leadsTo_6 : decode cX9_leadsTo 6 = .ok (.aload_n 3, 1) := by decide +kernel
theorem dX9_leadsTo_7 : decode cX9_leadsTo 7 = .ok (.ifnonnull 6, 3) := by decide +kernel
theorem dX9_leadsTo_10 : decode cX9_leadsTo 10 = .ok (.ldc 49, 2) := by decide +kernel
theorem dX9_leadsTo_12 : decode cX9_leadsTo 12 = .ok (.ireturn, 1) := by decide +kernel
theorem dX9_leadsTo_13 : decode cX9_leadsTo 13 = .ok (.iload_n 2, 1) := by decide +kernel
theorem dX9_leadsTo_14 : decode cX9_leadsTo 14 = .ok (.ldc 135, 2) := by decide +kernel
theorem dX9_leadsTo_16 : decode cX9_leadsTo 16 = .ok (.invokestatic 69, 3) := by decide +kernel
theorem dX9_leadsTo_19 : decode cX9_leadsTo 19 = .ok (.ifCond .ne 6, 3) := by decide +kernel
theorem dX9_leadsTo_22 : decode cX9_leadsTo 22 = .ok (.ldc 54, 2) := by decide +kernel
theorem dX9_leadsTo_24 : decode cX9_leadsTo 24 = .ok (.ireturn, 1) := by decide +kernel
theorem dX9_leadsTo_25 : decode cX9_leadsTo 25 = .ok (.aload_n 3, 1) := by decide +kernel
theorem dX9_leadsTo_26 : decode cX9_leadsTo 26 = .ok (.getfield 55, 3) := by decide +kernel
theorem dX9_leadsTo_29 : decode cX9_leadsTo 29 = .ok (.getfield 103, 3) := by decide +kernel
theorem dX9_leadsTo_32 : decode cX9_leadsTo 32 = .ok (.ifCond .ne 6, 3) := by decide +kernel
theorem dX9_leadsTo_35 : decode cX9_leadsTo 35 = .ok (.ldc 115, 2) := by decide +kernel
theorem dX9_leadsTo_37 : decode cX9_leadsTo 37 = .ok (.ireturn, 1) := by decide +kernel
theorem dX9_leadsTo_38 : decode cX9_leadsTo 38 = .ok (.aload_n 3, 1) := by decide +kernel
theorem dX9_leadsTo_39 : decode cX9_leadsTo 39 = .ok (.getfield 136, 3) := by decide +kernel
theorem dX9_leadsTo_42 : decode cX9_leadsTo 42 = .ok (.iload_n 2, 1) := by decide +kernel
theorem dX9_leadsTo_43 : decode cX9_leadsTo 43 = .ok (.iconst 1, 1) := by decide +kernel
theorem dX9_leadsTo_44 : decode cX9_leadsTo 44 = .ok (.invokevirtual 140, 3) := by decide +kernel
theorem dX9_leadsTo_47 : decode cX9_leadsTo 47 = .ok (.aload_n 3, 1) := by decide +kernel
theorem dX9_leadsTo_48 : decode cX9_leadsTo 48 = .ok (.getfield 116, 3) := by decide +kernel
theorem dX9_leadsTo_51 : decode cX9_leadsTo 51 = .ok (.aload_n 3, 1) := by decide +kernel
theorem dX9_leadsTo_52 : decode cX9_leadsTo 52 = .ok (.getfield 136, 3) := by decide +kernel
theorem dX9_leadsTo_55 : decode cX9_leadsTo 55 = .ok (.getfield 145, 3) := by decide +kernel
theorem dX9_leadsTo_58 : decode cX9_leadsTo 58 = .ok (.invokevirtual 148, 3) := by decide +kernel
theorem dX9_leadsTo_61 : decode cX9_leadsTo 61 = .ok (.ireturn, 1) := by decide +kernel
set_option maxRecDepth 20000 in
theorem ggX9_reachesAll_X9_systemAt : GoodIn wsX9_reachesAll wsX9_systemAt := goodIn_r _ [7, 8, 54, 55, 56, 57, 58] (by decide +kernel) (by decide +kernel)
set_option maxRecDepth 20000 in
theorem gX9_reachesAll_X9_systemAt : GoodIn wsX9_reachesAll (wsV RX9 45 RX9 yX9_systemAt wsX9_systemAt) := goodIn_app (goodIn_of _ (by decide +kernel)) ggX9_reachesAll_X9_systemAt
set_option maxRecDepth 20000 in
theorem ggX9_reachesAll_X0_keepsZero : GoodIn wsX9_reachesAll wsX0_keepsZero := goodIn_r _ [12, 13, 14, 15, 10, 16, 17, 18, 19, 20, 21, 22, 23, 47, 48, 49, 50, 51, 52, 53] (by decide +kernel) (by decide +kernel)
set_option maxRecDepth 20000 in
theorem gX9_reachesAll_X0_keepsZero_n151 : GoodIn wsX9_reachesAll (wsX0_keepsZero) := ggX9_reachesAll_X0_keepsZero
set_option maxRecDepth 20000 in
theorem ggX9_reachesAll_X3_countUpTo : GoodIn wsX9_reachesAll wsX3_countUpTo := goodIn_r _ [27, 28, 29, 30, 25, 31, 32, 33, 10, 34, 35, 36, 13, 14, 15, 16, 17, 18, 19, 20, 21, 22, 23, 37, 38, 39, 40, 41, 59, 47, 48, 49, 50, 51, 52, 53] (by decide +kernel) (by decide +kernel)
set_option maxRecDepth 20000 in
theorem gX9_reachesAll_X3_countUpTo_n120 : GoodIn wsX9_reachesAll (wsX3_countUpTo) := ggX9_reachesAll_X3_countUpTo
theorem dX9_reachesAll_0 : decode cX9_reachesAll 0 = .ok (.aload_n 0, 1) := by decide +kernel
theorem dX9_reachesAll_1 : decode cX9_reachesAll 1 = .ok (.iload_n 1, 1) := by decide +kernel
theorem dX9_reachesAll_2 : decode cX9_reachesAll 2 = .ok (.invokevirtual 45, 3) := by decide +kernel
theorem dX9_reachesAll_5 : decode cX9_reachesAll 5 = .ok (.astore_n 2, 1) := by decide +kernel
theorem dX9_reachesAll_6 : decode cX9_reachesAll 6 = .ok (.aload_n 2, 1) := by decide +kernel
theorem dX9_reachesAll_7 : decode cX9_reachesAll 7 = .ok (.ifnonnull 6, 3) := by decide +kernel
theorem dX9_reachesAll_10 : decode cX9_reachesAll 10 = .ok (.ldc 49, 2) := by decide +kernel
theorem dX9_reachesAll_12 : decode cX9_reachesAll 12 = .ok (.ireturn, 1) := by decide +kernel
theorem dX9_reachesAll_13 : decode cX9_reachesAll 13 = .ok (.aload_n 2, 1) := by decide +kernel
theorem dX9_reachesAll_14 : decode cX9_reachesAll 14 = .ok (.getfield 55, 3) := by decide +kernel
theorem dX9_reachesAll_17 : decode cX9_reachesAll 17 = .ok (.getfield 103, 3) := by decide +kernel
theorem dX9_reachesAll_20 : decode cX9_reachesAll 20 = .ok (.ifCond .ne 6, 3) := by decide +kernel
theorem dX9_reachesAll_23 : decode cX9_reachesAll 23 = .ok (.ldc 115, 2) := by decide +kernel
theorem dX9_reachesAll_25 : decode cX9_reachesAll 25 = .ok (.ireturn, 1) := by decide +kernel
theorem dX9_reachesAll_26 : decode cX9_reachesAll 26 = .ok (.aload_n 2, 1) := by decide +kernel
theorem dX9_reachesAll_27 : decode cX9_reachesAll 27 = .ok (.getfield 55, 3) := by decide +kernel
theorem dX9_reachesAll_30 : decode cX9_reachesAll 30 = .ok (.invokevirtual 151, 3) := by decide +kernel
theorem dX9_reachesAll_33 : decode cX9_reachesAll 33 = .ok (.ifCond .eq 20, 3) := by decide +kernel
theorem dX9_reachesAll_36 : decode cX9_reachesAll 36 = .ok (.aload_n 2, 1) := by decide +kernel
theorem dX9_reachesAll_37 : decode cX9_reachesAll 37 = .ok (.getfield 116, 3) := by decide +kernel
theorem dX9_reachesAll_40 : decode cX9_reachesAll 40 = .ok (.bipush 20, 2) := by decide +kernel
theorem dX9_reachesAll_42 : decode cX9_reachesAll 42 = .ok (.invokevirtual 120, 3) := by decide +kernel
theorem dX9_reachesAll_45 : decode cX9_reachesAll 45 = .ok (.iconst 1, 1) := by decide +kernel
theorem dX9_reachesAll_46 : decode cX9_reachesAll 46 = .ok (.if_icmp .ne 7, 3) := by decide +kernel
theorem dX9_reachesAll_49 : decode cX9_reachesAll 49 = .ok (.iconst 1, 1) := by decide +kernel
theorem dX9_reachesAll_50 : decode cX9_reachesAll 50 = .ok (.goto 4, 3) := by decide +kernel
theorem dX9_reachesAll_53 : decode cX9_reachesAll 53 = .ok (.iconst 0, 1) := by decide +kernel
theorem dX9_reachesAll_54 : decode cX9_reachesAll 54 = .ok (.ireturn, 1) := by decide +kernel
set_option maxRecDepth 20000 in
theorem ggX9_expansions_X9_systemAt : GoodIn wsX9_expansions wsX9_systemAt := goodIn_r _ [10, 11, 101, 102, 103, 104, 105] (by decide +kernel) (by decide +kernel)
set_option maxRecDepth 20000 in
theorem gX9_expansions_X9_systemAt : GoodIn wsX9_expansions (wsV RX9 45 RX9 yX9_systemAt wsX9_systemAt) := goodIn_app (goodIn_of _ (by decide +kernel)) ggX9_expansions_X9_systemAt
set_option maxRecDepth 20000 in
theorem ggX9_expansions_X9_isWithin : GoodIn wsX9_expansions wsX9_isWithin := goodIn_r _ [14] (by decide +kernel) (by decide +kernel)
set_option maxRecDepth 20000 in
theorem gX9_expansions_X9_isWithin : GoodIn wsX9_expansions (va_wsS RX9 69 yX9_isWithin wsX9_isWithin) := goodIn_app (goodIn_of _ (by decide +kernel)) ggX9_expansions_X9_isWithin
set_option maxRecDepth 20000 in
theorem ggX9_expansions_X8_rowsWith : GoodIn wsX9_expansions wsX8_rowsWith := goodIn_r _ [18, 19, 20, 21, 22, 16, 23, 24, 25, 26, 27, 28, 29, 30, 31, 32, 33, 34, 35, 36, 37, 38, 39, 40, 41, 42, 43, 44, 45, 46, 47, 48, 49, 50, 51, 52, 53, 54, 55, 56, 57, 58, 59, 60, 61, 62, 63, 64, 65, 66, 67, 68, 69, 70, 71, 72, 73, 74, 75, 76, 77, 78, 79, 80, 81, 82, 83, 84, 85, 86, 87, 88, 89, 90, 91, 92, 93, 94, 95, 106, 107, 108, 109, 110, 111, 112, 113, 114, 115, 116, 117, 118, 119] (by decide +kernel) (by decide +kernel)
set_option maxRecDepth 20000 in
theorem gX9_expansions_X8_rowsWith_n159 : GoodIn wsX9_expansions (wsX8_rowsWith) := ggX9_expansions_X8_rowsWith
theorem dX9_expansions_0 : decode cX9_expansions 0 = .ok (.aload_n 0, 1) := by decide +kernel
theorem dX9_expansions_1 : decode cX9_expansions 1 = .ok (.iload_n 1, 1) := by decide +kernel
theorem dX9_expansions_2 : decode cX9_expansions 2 = .ok (.invokevirtual 45, 3) := by decide +kernel
theorem dX9_expansions_5 : decode cX9_expansions 5 = .ok (.astore 4, 2) := by decide +kernel
theorem dX9_expansions_7 : decode cX9_expansions 7 = .ok (.aload 4, 2) := by decide +kernel
theorem dX9_expansions_9 : decode cX9_expansions 9 = .ok (.ifnonnull 6, 3) := by decide +kernel
theorem dX9_expansions_12 : decode cX9_expansions 12 = .ok (.ldc 49, 2) := by decide +kernel
theorem dX9_expansions_14 : decode cX9_expansions 14 = .ok (.ireturn, 1) := by decide +kernel
theorem dX9_expansions_15 : decode cX9_expansions 15 = .ok (.iload_n 2, 1) := by decide +kernel
theorem dX9_expansions_16 : decode cX9_expansions 16 = .ok (.ldc 135, 2) := by decide +kernel
theorem dX9_expansions_18 : decode cX9_expansions 18 = .ok (.invokestatic 69, 3) := by decide +kernel
theorem dX9_expansions_21 : decode cX9_expansions 21 = .ok (.ifCond .eq 13, 3) := by decide +kernel
theorem dX9_expansions_24 : decode cX9_expansions 24 = .ok (.iload_n 3, 1) := by decide +kernel
theorem dX9_expansions_25 : decode cX9_expansions 25 = .ok (.ifCond .lt 9, 3) := by decide +kernel
theorem dX9_expansions_28 : decode cX9_expansions 28 = .ok (.iload_n 3, 1) := by decide +kernel
theorem dX9_expansions_29 : decode cX9_expansions 29 = .ok (.bipush 12, 2) := by decide +kernel
theorem dX9_expansions_31 : decode cX9_expansions 31 = .ok (.if_icmp .le 6, 3) := by decide +kernel
theorem dX9_expansions_34 : decode cX9_expansions 34 = .ok (.ldc 54, 2) := by decide +kernel
theorem dX9_expansions_36 : decode cX9_expansions 36 = .ok (.ireturn, 1) := by decide +kernel
theorem dX9_expansions_37 : decode cX9_expansions 37 = .ok (.aload 4, 2) := by decide +kernel
theorem dX9_expansions_39 : decode cX9_expansions 39 = .ok (.getfield 155, 3) := by decide +kernel
theorem dX9_expansions_42 : decode cX9_expansions 42 = .ok (.iload_n 2, 1) := by decide +kernel
theorem dX9_expansions_43 : decode cX9_expansions 43 = .ok (.iload_n 3, 1) := by decide +kernel
theorem dX9_expansions_44 : decode cX9_expansions 44 = .ok (.invokevirtual 159, 3) := by decide +kernel
theorem dX9_expansions_47 : decode cX9_expansions 47 = .ok (.lstore 5, 2) := by decide +kernel
theorem dX9_expansions_49 : decode cX9_expansions 49 = .ok (.lload 5, 2) := by decide +kernel
theorem dX9_expansions_51 : decode cX9_expansions 51 = .ok (.ldc2_w 165, 3) := by decide +kernel
theorem dX9_expansions_54 : decode cX9_expansions 54 = .ok (.lcmp, 1) := by decide +kernel
theorem dX9_expansions_55 : decode cX9_expansions 55 = .ok (.ifCond .le 8, 3) := by decide +kernel
theorem dX9_expansions_58 : decode cX9_expansions 58 = .ok (.ldc 167, 2) := by decide +kernel
theorem dX9_expansions_60 : decode cX9_expansions 60 = .ok (.goto 6, 3) := by decide +kernel
theorem dX9_expansions_63 : decode cX9_expansions 63 = .ok (.lload 5, 2) := by decide +kernel
theorem dX9_expansions_65 : decode cX9_expansions 65 = .ok (.l2i, 1) := by decide +kernel
theorem dX9_expansions_66 : decode cX9_expansions 66 = .ok (.ireturn, 1) := by decide +kernel
set_option maxRecDepth 20000 in
theorem ggX9_expansionDigit_X9_systemAt : GoodIn wsX9_expansionDigit wsX9_systemAt := goodIn_r _ [10, 11, 111, 112, 113, 114, 115] (by decide +kernel) (by decide +kernel)
set_option maxRecDepth 20000 in
theorem gX9_expansionDigit_X9_systemAt : GoodIn wsX9_expansionDigit (wsV RX9 45 RX9 yX9_systemAt wsX9_systemAt) := goodIn_app (goodIn_of _ (by decide +kernel)) ggX9_expansionDigit_X9_systemAt
set_option maxRecDepth 20000 in
theorem ggX9_expansionDigit_X9_isWithin : GoodIn wsX9_expansionDigit wsX9_isWithin := goodIn_r _ [14] (by decide +kernel) (by decide +kernel)
set_option maxRecDepth 20000 in
theorem gX9_expansionDigit_X9_isWithin : GoodIn wsX9_expansionDigit (va_wsS RX9 69 yX9_isWithin wsX9_isWithin) := goodIn_app (goodIn_of _ (by decide +kernel)) ggX9_expansionDigit_X9_isWithin
set_option maxRecDepth 20000 in
theorem ggX9_expansionDigit_X8_rowsWith : GoodIn wsX9_expansionDigit wsX8_rowsWith := goodIn_r _ [18, 19, 20, 21, 22, 16, 23, 24, 25, 26, 27, 28, 29, 30, 31, 32, 33, 34, 35, 36, 37, 38, 39, 40, 41, 42, 43, 44, 45, 46, 47, 48, 49, 50, 51, 52, 53, 54, 55, 56, 57, 58, 59, 60, 61, 62, 63, 64, 65, 66, 67, 68, 69, 70, 71, 72, 73, 74, 75, 76, 77, 78, 79, 80, 81, 82, 83, 84, 85, 86, 87, 88, 89, 90, 91, 92, 93, 94, 95, 116, 117, 118, 119, 120, 121, 122, 123, 124, 125, 126, 127, 128, 129] (by decide +kernel) (by decide +kernel)
set_option maxRecDepth 20000 in
theorem gX9_expansionDigit_X8_rowsWith_n159 : GoodIn wsX9_expansionDigit (wsX8_rowsWith) := ggX9_expansionDigit_X8_rowsWith
set_option maxRecDepth 20000 in
theorem ggX9_expansionDigit_X8_entryOfRow : GoodIn wsX9_expansionDigit wsX8_entryOfRow := goodIn_r _ [98, 99, 100, 101, 19, 24, 102, 103, 104, 16, 105, 38, 32, 39, 40, 41, 72, 73, 74, 75, 76, 77, 78, 79, 80, 81, 82, 83, 84, 85, 86, 87, 88, 89, 90, 91, 64, 65, 66, 67, 25, 60, 61, 62, 63, 26, 116, 117, 118, 119, 120, 121, 122, 123, 124, 125, 126, 127, 128, 129] (by decide +kernel) (by decide +kernel)
set_option maxRecDepth 20000 in
theorem gX9_expansionDigit_X8_entryOfRow_n169 : GoodIn wsX9_expansionDigit (wsX8_entryOfRow) := ggX9_expansionDigit_X8_entryOfRow
theorem dX9_expansionDigit_0 : decode cX9_expansionDigit 0 = .ok (.aload_n 0, 1) := by decide +kernel
theorem dX9_expansionDigit_1 : decode cX9_expansionDigit 1 = .ok (.iload_n 1, 1) := by decide +kernel
theorem dX9_expansionDigit_2 : decode cX9_expansionDigit 2 = .ok (.invokevirtual 45, 3) := by decide +kernel
theorem dX9_expansionDigit_5 : decode cX9_expansionDigit 5 = .ok (.astore 6, 2) := by decide +kernel
theorem dX9_expansionDigit_7 : decode cX9_expansionDigit 7 = .ok (.aload 6, 2) := by decide +kernel
theorem dX9_expansionDigit_9 : decode cX9_expansionDigit 9 = .ok (.ifnonnull 6, 3) := by decide +kernel
theorem dX9_expansionDigit_12 : decode cX9_expansionDigit 12 = .ok (.ldc 49, 2) := by decide +kernel
theorem dX9_expansionDigit_14 : decode cX9_expansionDigit 14 = .ok (.ireturn, 1) := by decide +kernel
theorem dX9_expansionDigit_15 : decode cX9_expansionDigit 15 = .ok (.iload_n 3, 1) := by decide +kernel
theorem dX9_expansionDigit_16 : decode cX9_expansionDigit 16 = .ok (.ifCond .lt 13, 3) := by decide +kernel
theorem dX9_expansionDigit_19 : decode cX9_expansionDigit 19 = .ok (.iload_n 3, 1) := by decide +kernel
theorem dX9_expansionDigit_20 : decode cX9_expansionDigit 20 = .ok (.bipush 12, 2) := by decide +kernel
theorem dX9_expansionDigit_22 : decode cX9_expansionDigit 22 = .ok (.if_icmp .gt 7, 3) := by decide +kernel
theorem dX9_expansionDigit_25 : decode cX9_expansionDigit 25 = .ok (.iconst 1, 1) := by decide +kernel
theorem dX9_expansionDigit_26 : decode cX9_expansionDigit 26 = .ok (.goto 4, 3) := by decide +kernel
theorem dX9_expansionDigit_29 : decode cX9_expansionDigit 29 = .ok (.iconst 0, 1) := by decide +kernel
theorem dX9_expansionDigit_30 : decode cX9_expansionDigit 30 = .ok (.istore 7, 2) := by decide +kernel
theorem dX9_expansionDigit_32 : decode cX9_expansionDigit 32 = .ok (.iload 7, 2) := by decide +kernel
theorem dX9_expansionDigit_34 : decode cX9_expansionDigit 34 = .ok (.ifCond .eq 17, 3) := by decide +kernel
theorem dX9_expansionDigit_37 : decode cX9_expansionDigit 37 = .ok (.iload 5, 2) := by decide +kernel
theorem dX9_expansionDigit_39 : decode cX9_expansionDigit 39 = .ok (.ifCond .lt 9, 3) := by decide +kernel
theorem dX9_expansionDigit_42 : decode cX9_expansionDigit 42 = .ok (.iload 5, 2) := by decide +kernel
theorem dX9_expansionDigit_44 : decode cX9_expansionDigit 44 = .ok (.iload_n 3, 1) := by decide +kernel
theorem dX9_expansionDigit_45 : decode cX9_expansionDigit 45 = .ok (.if_icmp .lt 6, 3) := by decide +kernel
theorem dX9_expansionDigit_48 : decode cX9_expansionDigit 48 = .ok (.ldc 49, 2) := by decide +kernel
theorem dX9_expansionDigit_50 : decode cX9_expansionDigit 50 = .ok (.ireturn, 1) := by decide +kernel
theorem dX9_expansionDigit_51 : decode cX9_expansionDigit 51 = .ok (.iload_n 2, 1) := by decide +kernel
theorem dX9_expansionDigit_52 : decode cX9_expansionDigit 52 = .ok (.ldc 135, 2) := by decide +kernel
theorem dX9_expansionDigit_54 : decode cX9_expansionDigit 54 = .ok (.invokestatic 69, 3) := by decide +kernel
theorem dX9_expansionDigit_57 : decode cX9_expansionDigit 57 = .ok (.ifCond .eq 20, 3) := by decide +kernel
theorem dX9_expansionDigit_60 : decode cX9_expansionDigit 60 = .ok (.iload 7, 2) := by decide +kernel
theorem dX9_expansionDigit_62 : decode cX9_expansionDigit 62 = .ok (.ifCond .eq 15, 3) := by decide +kernel
theorem dX9_expansionDigit_65 : decode cX9_expansionDigit 65 = .ok (.iload 4, 2) := by decide +kernel
theorem dX9_expansionDigit_67 : decode cX9_expansionDigit 67 = .ok (.ifCond .lt 10, 3) := by decide +kernel
theorem dX9_expansionDigit_70 : decode cX9_expansionDigit 70 = .ok (.iload 4, 2) := by decide +kernel
theorem dX9_expansionDigit_72 : decode cX9_expansionDigit 72 = .ok (.ldc 168, 2) := by decide +kernel
theorem dX9_expansionDigit_74 : decode cX9_expansionDigit 74 = .ok (.if_icmp .le 6, 3) := by decide +kernel
theorem dX9_expansionDigit_77 : decode cX9_expansionDigit 77 = .ok (.ldc 54, 2) := by decide +kernel
theorem dX9_expansionDigit_79 : decode cX9_expansionDigit 79 = .ok (.ireturn, 1) := by decide +kernel
theorem dX9_expansionDigit_80 : decode cX9_expansionDigit 80 = .ok (.iload 4, 2) := by decide +kernel
theorem dX9_expansionDigit_82 : decode cX9_expansionDigit 82 = .ok (.i2l, 1) := by decide +kernel
theorem dX9_expansionDigit_83 : decode cX9_expansionDigit 83 = .ok (.aload 6, 2) := by decide +kernel
theorem dX9_expansionDigit_85 : decode cX9_expansionDigit 85 = .ok (.getfield 155, 3) := by decide +kernel
theorem dX9_expansionDigit_88 : decode cX9_expansionDigit 88 = .ok (.iload_n 2, 1) := by decide +kernel
theorem dX9_expansionDigit_89 : decode cX9_expansionDigit 89 = .ok (.iload_n 3, 1) := by decide +kernel
theorem dX9_expansionDigit_90 : decode cX9_expansionDigit 90 = .ok (.invokevirtual 159, 3) := by decide +kernel
theorem dX9_expansionDigit_93 : decode cX9_expansionDigit 93 = .ok (.lcmp, 1) := by decide +kernel
theorem dX9_expansionDigit_94 : decode cX9_expansionDigit 94 = .ok (.ifCond .lt 6, 3) := by decide +kernel
theorem dX9_expansionDigit_97 : decode cX9_expansionDigit 97 = .ok (.ldc 125, 2) := by decide +kernel
theorem dX9_expansionDigit_99 : decode cX9_expansionDigit 99 = .ok (.ireturn, 1) := by decide +kernel
theorem dX9_expansionDigit_100 : decode cX9_expansionDigit 100 = .ok (.aload 6, 2) := by decide +kernel
theorem dX9_expansionDigit_102 : decode cX9_expansionDigit 102 = .ok (.getfield 155, 3) := by decide +kernel
theorem dX9_expansionDigit_105 : decode cX9_expansionDigit 105 = .ok (.iload_n 2, 1) := by decide +kernel
theorem dX9_expansionDigit_106 : decode cX9_expansionDigit 106 = .ok (.iload 4, 2) := by decide +kernel
theorem dX9_expansionDigit_108 : decode cX9_expansionDigit 108 = .ok (.iload 5, 2) := by decide +kernel
theorem dX9_expansionDigit_110 : decode cX9_expansionDigit 110 = .ok (.invokevirtual 169, 3) := by decide +kernel
theorem dX9_expansionDigit_113 : decode cX9_expansionDigit 113 = .ok (.ireturn, 1) := by decide +kernel
set_option maxRecDepth 20000 in
theorem ggX9_shortest_X9_systemAt : GoodIn wsX9_shortest wsX9_systemAt := goodIn_r _ [8, 9, 99, 100, 101, 102, 103] (by decide +kernel) (by decide +kernel)
set_option maxRecDepth 20000 in
theorem gX9_shortest_X9_systemAt : GoodIn wsX9_shortest (wsV RX9 45 RX9 yX9_systemAt wsX9_systemAt) := goodIn_app (goodIn_of _ (by decide +kernel)) ggX9_shortest_X9_systemAt
set_option maxRecDepth 20000 in
theorem ggX9_shortest_X9_isWithin : GoodIn wsX9_shortest wsX9_isWithin := goodIn_r _ [12] (by decide +kernel) (by decide +kernel)
set_option maxRecDepth 20000 in
theorem gX9_shortest_X9_isWithin : GoodIn wsX9_shortest (va_wsS RX9 69 yX9_isWithin wsX9_isWithin) := goodIn_app (goodIn_of _ (by decide +kernel)) ggX9_shortest_X9_isWithin
set_option maxRecDepth 20000 in
theorem ggX9_shortest_X8_leastLength : GoodIn wsX9_shortest wsX8_leastLength := goodIn_r _ [16, 17, 18, 19, 20, 14, 21, 22, 23, 24, 25, 26, 27, 28, 29, 30, 31, 32, 33, 34, 35, 36, 37, 38, 39, 40, 41, 42, 43, 44, 45, 46, 47, 48, 49, 50, 51, 52, 53, 54, 55, 56, 57, 58, 59, 60, 61, 62, 63, 64, 65, 66, 67, 68, 69, 70, 71, 72, 73, 74, 75, 76, 77, 78, 79, 80, 81, 82, 83, 84, 85, 86, 87, 88, 89, 90, 91, 92, 93, 104, 105, 106, 107, 108, 109, 110, 111, 112, 113, 114, 115, 116, 117] (by decide +kernel) (by decide +kernel)
set_option maxRecDepth 20000 in
theorem gX9_shortest_X8_leastLength_n173 : GoodIn wsX9_shortest (wsX8_leastLength) := ggX9_shortest_X8_leastLength
theorem dX9_shortest_0 : decode cX9_shortest 0 = .ok (.aload_n 0, 1) := by decide +kernel
theorem dX9_shortest_1 : decode cX9_shortest 1 = .ok (.iload_n 1, 1) := by decide +kernel
theorem dX9_shortest_2 : decode cX9_shortest 2 = .ok (.invokevirtual 45, 3) := by decide +kernel
theorem dX9_shortest_5 : decode cX9_shortest 5 = .ok (.astore_n 3, 1) := by decide +kernel
theorem dX9_shortest_6 : decode cX9_shortest 6 = .ok (.aload_n 3, 1) := by decide +kernel
theorem dX9_shortest_7 : decode cX9_shortest 7 = .ok (.ifnonnull 6, 3) := by decide +kernel
theorem dX9_shortest_10 : decode cX9_shortest 10 = .ok (.ldc 49, 2) := by decide +kernel
theorem dX9_shortest_12 : decode cX9_shortest 12 = .ok (.ireturn, 1) := by decide +kernel
theorem dX9_shortest_13 : decode cX9_shortest 13 = .ok (.iload_n 2, 1) := by decide +kernel
theorem dX9_shortest_14 : decode cX9_shortest 14 = .ok (.ldc 135, 2) := by decide +kernel
theorem dX9_shortest_16 : decode cX9_shortest 16 = .ok (.invokestatic 69, 3) := by decide +kernel
theorem dX9_shortest_19 : decode cX9_shortest 19 = .ok (.ifCond .ne 6, 3) := by decide +kernel
theorem dX9_shortest_22 : decode cX9_shortest 22 = .ok (.ldc 54, 2) := by decide +kernel
theorem dX9_shortest_24 : decode cX9_shortest 24 = .ok (.ireturn, 1) := by decide +kernel
theorem dX9_shortest_25 : decode cX9_shortest 25 = .ok (.aload_n 3, 1) := by decide +kernel
theorem dX9_shortest_26 : decode cX9_shortest 26 = .ok (.getfield 155, 3) := by decide +kernel
theorem dX9_shortest_29 : decode cX9_shortest 29 = .ok (.iload_n 2, 1) := by decide +kernel
theorem dX9_shortest_30 : decode cX9_shortest 30 = .ok (.invokevirtual 173, 3) := by decide +kernel
theorem dX9_shortest_33 : decode cX9_shortest 33 = .ok (.ireturn, 1) := by decide +kernel
set_option maxRecDepth 20000 in
theorem ggX9_push_X9_rowAt : GoodIn wsX9_push wsX9_rowAt := goodIn_r _ [8, 9, 21, 22, 23, 24, 25] (by decide +kernel) (by decide +kernel)
set_option maxRecDepth 20000 in
theorem gX9_push_X9_rowAt : GoodIn wsX9_push (wsV RX9 176 RX9 yX9_rowAt wsX9_rowAt) := goodIn_app (goodIn_of _ (by decide +kernel)) ggX9_push_X9_rowAt
set_option maxRecDepth 20000 in
theorem ggX9_push_X9_isWithin : GoodIn wsX9_push wsX9_isWithin := goodIn_r _ [12] (by decide +kernel) (by decide +kernel)
set_option maxRecDepth 20000 in
theorem gX9_push_X9_isWithin : GoodIn wsX9_push (va_wsS RX9 69 yX9_isWithin wsX9_isWithin) := goodIn_app (goodIn_of _ (by decide +kernel)) ggX9_push_X9_isWithin
set_option maxRecDepth 20000 in
theorem ggX9_push_X6_append : GoodIn wsX9_push wsX6_append := goodIn_r _ [16, 17, 18, 19, 20] (by decide +kernel) (by decide +kernel)
set_option maxRecDepth 20000 in
theorem gX9_push_X6_append_n181 : GoodIn wsX9_push (wsX6_append) := ggX9_push_X6_append
theorem dX9_push_0 : decode cX9_push 0 = .ok (.aload_n 0, 1) := by decide +kernel
theorem dX9_push_1 : decode cX9_push 1 = .ok (.iload_n 1, 1) := by decide +kernel
theorem dX9_push_2 : decode cX9_push 2 = .ok (.invokevirtual 176, 3) := by decide +kernel
theorem dX9_push_5 : decode cX9_push 5 = .ok (.astore_n 3, 1) := by decide +kernel
theorem dX9_push_6 : decode cX9_push 6 = .ok (.aload_n 3, 1) := by decide +kernel
theorem dX9_push_7 : decode cX9_push 7 = .ok (.ifnonnull 6, 3) := by decide +kernel
theorem dX9_push_10 : decode cX9_push 10 = .ok (.ldc 49, 2) := by decide +kernel
theorem dX9_push_12 : decode cX9_push 12 = .ok (.ireturn, 1) := by decide +kernel
theorem dX9_push_13 : decode cX9_push 13 = .ok (.iload_n 2, 1) := by decide +kernel
theorem dX9_push_14 : decode cX9_push 14 = .ok (.bipush 20, 2) := by decide +kernel
theorem dX9_push_16 : decode cX9_push 16 = .ok (.invokestatic 69, 3) := by decide +kernel
theorem dX9_push_19 : decode cX9_push 19 = .ok (.ifCond .ne 6, 3) := by decide +kernel
theorem dX9_push_22 : decode cX9_push 22 = .ok (.ldc 54, 2) := by decide +kernel
theorem dX9_push_24 : decode cX9_push 24 = .ok (.ireturn, 1) := by decide +kernel
theorem dX9_push_25 : decode cX9_push 25 = .ok (.aload_n 3, 1) := by decide +kernel
theorem dX9_push_26 : decode cX9_push 26 = .ok (.getfield 180, 3) := by decide +kernel
theorem dX9_push_29 : decode cX9_push 29 = .ok (.bipush 12, 2) := by decide +kernel
theorem dX9_push_31 : decode cX9_push 31 = .ok (.if_icmp .lt 6, 3) := by decide +kernel
theorem dX9_push_34 : decode cX9_push 34 = .ok (.ldc 80, 2) := by decide +kernel
theorem dX9_push_36 : decode cX9_push 36 = .ok (.ireturn, 1) := by decide +kernel
theorem dX9_push_37 : decode cX9_push 37 = .ok (.aload_n 3, 1) := by decide +kernel
theorem dX9_push_38 : decode cX9_push 38 = .ok (.iload_n 2, 1) := by decide +kernel
theorem dX9_push_39 : decode cX9_push 39 = .ok (.invokevirtual 181, 3) := by decide +kernel
theorem dX9_push_42 : decode cX9_push 42 = .ok (.aload_n 3, 1) := by decide +kernel
theorem dX9_push_43 : decode cX9_push 43 = .ok (.getfield 180, 3) := by decide +kernel
theorem dX9_push_46 : decode cX9_push 46 = .ok (.ireturn, 1) := by decide +kernel
set_option maxRecDepth 20000 in
theorem ggX9_clear_X9_rowAt : GoodIn wsX9_clear wsX9_rowAt := goodIn_r _ [6, 7, 10, 11, 12, 13, 14] (by decide +kernel) (by decide +kernel)
set_option maxRecDepth 20000 in
theorem gX9_clear_X9_rowAt : GoodIn wsX9_clear (wsV RX9 176 RX9 yX9_rowAt wsX9_rowAt) := goodIn_app (goodIn_of _ (by decide +kernel)) ggX9_clear_X9_rowAt
theorem dX9_clear_0 : decode cX9_clear 0 = .ok (.aload_n 0, 1) := by decide +kernel
theorem dX9_clear_1 : decode cX9_clear 1 = .ok (.iload_n 1, 1) := by decide +kernel
theorem dX9_clear_2 : decode cX9_clear 2 = .ok (.invokevirtual 176, 3) := by decide +kernel
theorem dX9_clear_5 : decode cX9_clear 5 = .ok (.astore_n 2, 1) := by decide +kernel
theorem dX9_clear_6 : decode cX9_clear 6 = .ok (.aload_n 2, 1) := by decide +kernel
theorem dX9_clear_7 : decode cX9_clear 7 = .ok (.ifnonnull 6, 3) := by decide +kernel
theorem dX9_clear_10 : decode cX9_clear 10 = .ok (.ldc 49, 2) := by decide +kernel
theorem dX9_clear_12 : decode cX9_clear 12 = .ok (.ireturn, 1) := by decide +kernel
theorem dX9_clear_13 : decode cX9_clear 13 = .ok (.aload_n 2, 1) := by decide +kernel
theorem dX9_clear_14 : decode cX9_clear 14 = .ok (.getfield 180, 3) := by decide +kernel
theorem dX9_clear_17 : decode cX9_clear 17 = .ok (.istore_n 3, 1) := by decide +kernel
theorem dX9_clear_18 : decode cX9_clear 18 = .ok (.aload_n 2, 1) := by decide +kernel
theorem dX9_clear_19 : decode cX9_clear 19 = .ok (.iconst 0, 1) := by decide +kernel
theorem dX9_clear_20 : decode cX9_clear 20 = .ok (.putfield 180, 3) := by decide +kernel
theorem dX9_clear_23 : decode cX9_clear 23 = .ok (.iload_n 3, 1) := by decide +kernel
theorem dX9_clear_24 : decode cX9_clear 24 = .ok (.ireturn, 1) := by decide +kernel
set_option maxRecDepth 20000 in
theorem ggX9_size_X9_rowAt : GoodIn wsX9_size wsX9_rowAt := goodIn_r _ [6, 7, 10, 11, 12, 13, 14] (by decide +kernel) (by decide +kernel)
set_option maxRecDepth 20000 in
theorem gX9_size_X9_rowAt : GoodIn wsX9_size (wsV RX9 176 RX9 yX9_rowAt wsX9_rowAt) := goodIn_app (goodIn_of _ (by decide +kernel)) ggX9_size_X9_rowAt
theorem dX9_size_0 : decode cX9_size 0 = .ok (.aload_n 0, 1) := by decide +kernel
theorem dX9_size_1 : decode cX9_size 1 = .ok (.iload_n 1, 1) := by decide +kernel
theorem dX9_size_2 : decode cX9_size 2 = .ok (.invokevirtual 176, 3) := by decide +kernel
theorem dX9_size_5 : decode cX9_size 5 = .ok (.astore_n 2, 1) := by decide +kernel
theorem dX9_size_6 : decode cX9_size 6 = .ok (.aload_n 2, 1) := by decide +kernel
theorem dX9_size_7 : decode cX9_size 7 = .ok (.ifnonnull 8, 3) := by decide +kernel
theorem dX9_size_10 : decode cX9_size 10 = .ok (.ldc 49, 2) := by decide +kernel
theorem dX9_size_12 : decode cX9_size 12 = .ok (.goto 7, 3) := by decide +kernel
theorem dX9_size_15 : decode cX9_size 15 = .ok (.aload_n 2, 1) := by decide +kernel
theorem dX9_size_16 : decode cX9_size 16 = .ok (.getfield 180, 3) := by decide +kernel
theorem dX9_size_19 : decode cX9_size 19 = .ok (.ireturn, 1) := by decide +kernel
set_option maxRecDepth 20000 in
theorem ggX9_entry_X9_rowAt : GoodIn wsX9_entry wsX9_rowAt := goodIn_r _ [6, 7, 16, 17, 18, 19, 20] (by decide +kernel) (by decide +kernel)
set_option maxRecDepth 20000 in
theorem gX9_entry_X9_rowAt : GoodIn wsX9_entry (wsV RX9 176 RX9 yX9_rowAt wsX9_rowAt) := goodIn_app (goodIn_of _ (by decide +kernel)) ggX9_entry_X9_rowAt
set_option maxRecDepth 20000 in
theorem ggX9_entry_X6_entryOrZero : GoodIn wsX9_entry wsX6_entryOrZero := goodIn_r _ [11, 12, 13, 14, 15] (by decide +kernel) (by decide +kernel)
set_option maxRecDepth 20000 in
theorem gX9_entry_X6_entryOrZero_n182 : GoodIn wsX9_entry (wsX6_entryOrZero) := ggX9_entry_X6_entryOrZero
theorem dX9_entry_0 : decode cX9_entry 0 = .ok (.aload_n 0, 1) := by decide +kernel
theorem dX9_entry_1 : decode cX9_entry 1 = .ok (.iload_n 1, 1) := by decide +kernel
theorem dX9_entry_2 : decode cX9_entry 2 = .ok (.invokevirtual 176, 3) := by decide +kernel
theorem dX9_entry_5 : decode cX9_entry 5 = .ok (.astore_n 3, 1) := by decide +kernel
theorem dX9_entry_6 : decode cX9_entry 6 = .ok (.aload_n 3, 1) := by decide +kernel
theorem dX9_entry_7 : decode cX9_entry 7 = .ok (.ifnull 15, 3) := by decide +kernel
theorem dX9_entry_10 : decode cX9_entry 10 = .ok (.iload_n 2, 1) := by decide +kernel
theorem dX9_entry_11 : decode cX9_entry 11 = .ok (.ifCond .lt 11, 3) := by decide +kernel
theorem dX9_entry_14 : decode cX9_entry 14 = .ok (.iload_n 2, 1) := by decide +kernel
theorem dX9_entry_15 : decode cX9_entry 15 = .ok (.aload_n 3, 1) := by decide +kernel
theorem dX9_entry_16 : decode cX9_entry 16 = .ok (.getfield 180, 3) := by decide +kernel
theorem dX9_entry_19 : decode cX9_entry 19 = .ok (.if_icmp .lt 6, 3) := by decide +kernel
theorem dX9_entry_22 : decode cX9_entry 22 = .ok (.ldc 49, 2) := by decide +kernel
theorem dX9_entry_24 : decode cX9_entry 24 = .ok (.ireturn, 1) := by decide +kernel
theorem dX9_entry_25 : decode cX9_entry 25 = .ok (.aload_n 3, 1) := by decide +kernel
theorem dX9_entry_26 : decode cX9_entry 26 = .ok (.iload_n 2, 1) := by decide +kernel
theorem dX9_entry_27 : decode cX9_entry 27 = .ok (.invokevirtual 182, 3) := by decide +kernel
theorem dX9_entry_30 : decode cX9_entry 30 = .ok (.ireturn, 1) := by decide +kernel
set_option maxRecDepth 20000 in
theorem ggX9_value_X9_systemAt : GoodIn wsX9_value wsX9_systemAt := goodIn_r _ [7, 8, 32, 33, 34, 35, 36] (by decide +kernel) (by decide +kernel)
set_option maxRecDepth 20000 in
theorem gX9_value_X9_systemAt : GoodIn wsX9_value (wsV RX9 45 RX9 yX9_systemAt wsX9_systemAt) := goodIn_app (goodIn_of _ (by decide +kernel)) ggX9_value_X9_systemAt
