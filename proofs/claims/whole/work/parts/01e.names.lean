set_option maxRecDepth 20000 in
theorem ggX9_value_X9_rowAt : GoodIn wsX9_value wsX9_rowAt := goodIn_r _ [12, 13, 32, 33, 34, 35, 36] (by decide +kernel) (by decide +kernel)
set_option maxRecDepth 20000 in
theorem gX9_value_X9_rowAt : GoodIn wsX9_value (wsV RX9 176 RX9 yX9_rowAt wsX9_rowAt) := goodIn_app (goodIn_of _ (by decide +kernel)) ggX9_value_X9_rowAt
set_option maxRecDepth 20000 in
theorem ggX9_value_X4_read : GoodIn wsX9_value wsX4_read := goodIn_r _ [17, 18, 19, 20, 21, 22, 23, 24, 25, 26, 6, 27, 28, 29, 30, 31, 42, 43, 44, 45, 46, 47, 48, 49, 50, 51, 52] (by decide +kernel) (by decide +kernel)
set_option maxRecDepth 20000 in
theorem gX9_value_X4_read_n187 : GoodIn wsX9_value (wsX4_read) := ggX9_value_X4_read
theorem dX9_value_0 : decode cX9_value 0 = .ok (.aload_n 0, 1) := by decide +kernel
theorem dX9_value_1 : decode cX9_value 1 = .ok (.iload_n 1, 1) := by decide +kernel
theorem dX9_value_2 : decode cX9_value 2 = .ok (.invokevirtual 45, 3) := by decide +kernel
theorem dX9_value_5 : decode cX9_value 5 = .ok (.astore 4, 2) := by decide +kernel
theorem dX9_value_7 : decode cX9_value 7 = .ok (.aload_n 0, 1) := by decide +kernel
theorem dX9_value_8 : decode cX9_value 8 = .ok (.iload_n 2, 1) := by decide +kernel
theorem dX9_value_9 : decode cX9_value 9 = .ok (.invokevirtual 176, 3) := by decide +kernel
theorem dX9_value_12 : decode cX9_value 12 = .ok (.astore 5, 2) := by decide +kernel
theorem dX9_value_14 : decode cX9_value 14 = .ok (.aload 4, 2) := by decide +kernel
theorem dX9_value_16 : decode cX9_value 16 = .ok (.ifnull 8, 3) := by decide +kernel
theorem dX9_value_19 : decode cX9_value 19 = .ok (.aload 5, 2) := by decide +kernel
theorem dX9_value_21 : decode cX9_value 21 = .ok (.ifnonnull 7, 3) := by decide +kernel
theorem dX9_value_24 : decode cX9_value 24 = .ok (.ldc2_w 185, 3) := by decide +kernel
theorem dX9_value_27 : decode cX9_value 27 = .ok (.lreturn, 1) := by decide +kernel
theorem dX9_value_28 : decode cX9_value 28 = .ok (.aload_n 0, 1) := by decide +kernel
theorem dX9_value_29 : decode cX9_value 29 = .ok (.getfield 33, 3) := by decide +kernel
theorem dX9_value_32 : decode cX9_value 32 = .ok (.aload 4, 2) := by decide +kernel
theorem dX9_value_34 : decode cX9_value 34 = .ok (.getfield 55, 3) := by decide +kernel
theorem dX9_value_37 : decode cX9_value 37 = .ok (.aload 5, 2) := by decide +kernel
theorem dX9_value_39 : decode cX9_value 39 = .ok (.invokevirtual 187, 3) := by decide +kernel
theorem dX9_value_42 : decode cX9_value 42 = .ok (.iload_n 3, 1) := by decide +kernel
theorem dX9_value_43 : decode cX9_value 43 = .ok (.ifCond .eq 13, 3) := by decide +kernel
theorem dX9_value_46 : decode cX9_value 46 = .ok (.aload_n 0, 1) := by decide +kernel
theorem dX9_value_47 : decode cX9_value 47 = .ok (.getfield 33, 3) := by decide +kernel
theorem dX9_value_50 : decode cX9_value 50 = .ok (.getfield 191, 3) := by decide +kernel
theorem dX9_value_53 : decode cX9_value 53 = .ok (.goto 10, 3) := by decide +kernel
theorem dX9_value_56 : decode cX9_value 56 = .ok (.aload_n 0, 1) := by decide +kernel
theorem dX9_value_57 : decode cX9_value 57 = .ok (.getfield 33, 3) := by decide +kernel
theorem dX9_value_60 : decode cX9_value 60 = .ok (.getfield 195, 3) := by decide +kernel
theorem dX9_value_63 : decode cX9_value 63 = .ok (.lreturn, 1) := by decide +kernel
set_option maxRecDepth 20000 in
theorem ggX9_compare_X9_systemAt : GoodIn wsX9_compare wsX9_systemAt := goodIn_r _ [8, 9, 40, 41, 42, 43, 44] (by decide +kernel) (by decide +kernel)
set_option maxRecDepth 20000 in
theorem gX9_compare_X9_systemAt : GoodIn wsX9_compare (wsV RX9 45 RX9 yX9_systemAt wsX9_systemAt) := goodIn_app (goodIn_of _ (by decide +kernel)) ggX9_compare_X9_systemAt
set_option maxRecDepth 20000 in
theorem ggX9_compare_X9_rowAt : GoodIn wsX9_compare wsX9_rowAt := goodIn_r _ [13, 14, 40, 41, 42, 43, 44] (by decide +kernel) (by decide +kernel)
set_option maxRecDepth 20000 in
theorem gX9_compare_X9_rowAt : GoodIn wsX9_compare (wsV RX9 176 RX9 yX9_rowAt wsX9_rowAt) := goodIn_app (goodIn_of _ (by decide +kernel)) ggX9_compare_X9_rowAt
set_option maxRecDepth 20000 in
theorem ggX9_compare_X4_read : GoodIn wsX9_compare wsX4_read := goodIn_r _ [18, 19, 20, 21, 22, 23, 24, 25, 26, 27, 7, 28, 29, 30, 31, 32, 50, 51, 52, 53, 54, 55, 56, 57, 58, 59, 60] (by decide +kernel) (by decide +kernel)
set_option maxRecDepth 20000 in
theorem gX9_compare_X4_read_n187 : GoodIn wsX9_compare (wsX4_read) := ggX9_compare_X4_read
set_option maxRecDepth 20000 in
theorem ggX9_compare_X4_orderTo : GoodIn wsX9_compare wsX4_orderTo := goodIn_r _ [35, 19, 20, 36, 37, 38, 39, 50, 51] (by decide +kernel) (by decide +kernel)
set_option maxRecDepth 20000 in
theorem gX9_compare_X4_orderTo_n198 : GoodIn wsX9_compare (wsX4_orderTo) := ggX9_compare_X4_orderTo
theorem dX9_compare_0 : decode cX9_compare 0 = .ok (.aload_n 0, 1) := by decide +kernel
theorem dX9_compare_1 : decode cX9_compare 1 = .ok (.iload_n 1, 1) := by decide +kernel
theorem dX9_compare_2 : decode cX9_compare 2 = .ok (.invokevirtual 45, 3) := by decide +kernel
theorem dX9_compare_5 : decode cX9_compare 5 = .ok (.astore 5, 2) := by decide +kernel
theorem dX9_compare_7 : decode cX9_compare 7 = .ok (.aload_n 0, 1) := by decide +kernel
theorem dX9_compare_8 : decode cX9_compare 8 = .ok (.iload_n 2, 1) := by decide +kernel
theorem dX9_compare_9 : decode cX9_compare 9 = .ok (.invokevirtual 176, 3) := by decide +kernel
theorem dX9_compare_12 : decode cX9_compare 12 = .ok (.astore 6, 2) := by decide +kernel
theorem dX9_compare_14 : decode cX9_compare 14 = .ok (.aload_n 0, 1) := by decide +kernel
theorem dX9_compare_15 : decode cX9_compare 15 = .ok (.iload_n 3, 1) := by decide +kernel
theorem dX9_compare_16 : decode cX9_compare 16 = .ok (.invokevirtual 45, 3) := by decide +kernel
theorem dX9_compare_19 : decode cX9_compare 19 = .ok (.astore 7, 2) := by decide +kernel
theorem dX9_compare_21 : decode cX9_compare 21 = .ok (.aload_n 0, 1) := by decide +kernel
theorem dX9_compare_22 : decode cX9_compare 22 = .ok (.iload 4, 2) := by decide +kernel
theorem dX9_compare_24 : decode cX9_compare 24 = .ok (.invokevirtual 176, 3) := by decide +kernel
theorem dX9_compare_27 : decode cX9_compare 27 = .ok (.astore 8, 2) := by decide +kernel
theorem dX9_compare_29 : decode cX9_compare 29 = .ok (.aload 5, 2) := by decide +kernel
theorem dX9_compare_31 : decode cX9_compare 31 = .ok (.ifnull 18, 3) := by decide +kernel
theorem dX9_compare_34 : decode cX9_compare 34 = .ok (.aload 6, 2) := by decide +kernel
theorem dX9_compare_36 : decode cX9_compare 36 = .ok (.ifnull 13, 3) := by decide +kernel
theorem dX9_compare_39 : decode cX9_compare 39 = .ok (.aload 7, 2) := by decide +kernel
theorem dX9_compare_41 : decode cX9_compare 41 = .ok (.ifnull 8, 3) := by decide +kernel
theorem dX9_compare_44 : decode cX9_compare 44 = .ok (.aload 8, 2) := by decide +kernel
theorem dX9_compare_46 : decode cX9_compare 46 = .ok (.ifnonnull 6, 3) := by decide +kernel
theorem dX9_compare_49 : decode cX9_compare 49 = .ok (.ldc 49, 2) := by decide +kernel
theorem dX9_compare_51 : decode cX9_compare 51 = .ok (.ireturn, 1) := by decide +kernel
theorem dX9_compare_52 : decode cX9_compare 52 = .ok (.aload_n 0, 1) := by decide +kernel
theorem dX9_compare_53 : decode cX9_compare 53 = .ok (.getfield 33, 3) := by decide +kernel
theorem dX9_compare_56 : decode cX9_compare 56 = .ok (.aload 5, 2) := by decide +kernel
theorem dX9_compare_58 : decode cX9_compare 58 = .ok (.getfield 55, 3) := by decide +kernel
theorem dX9_compare_61 : decode cX9_compare 61 = .ok (.aload 6, 2) := by decide +kernel
theorem dX9_compare_63 : decode cX9_compare 63 = .ok (.invokevirtual 187, 3) := by decide +kernel
theorem dX9_compare_66 : decode cX9_compare 66 = .ok (.aload_n 0, 1) := by decide +kernel
theorem dX9_compare_67 : decode cX9_compare 67 = .ok (.getfield 37, 3) := by decide +kernel
theorem dX9_compare_70 : decode cX9_compare 70 = .ok (.aload 7, 2) := by decide +kernel
theorem dX9_compare_72 : decode cX9_compare 72 = .ok (.getfield 55, 3) := by decide +kernel
theorem dX9_compare_75 : decode cX9_compare 75 = .ok (.aload 8, 2) := by decide +kernel
theorem dX9_compare_77 : decode cX9_compare 77 = .ok (.invokevirtual 187, 3) := by decide +kernel
theorem dX9_compare_80 : decode cX9_compare 80 = .ok (.aload_n 0, 1) := by decide +kernel
theorem dX9_compare_81 : decode cX9_compare 81 = .ok (.getfield 33, 3) := by decide +kernel
theorem dX9_compare_84 : decode cX9_compare 84 = .ok (.aload_n 0, 1) := by decide +kernel
theorem dX9_compare_85 : decode cX9_compare 85 = .ok (.getfield 37, 3) := by decide +kernel
theorem dX9_compare_88 : decode cX9_compare 88 = .ok (.invokevirtual 198, 3) := by decide +kernel
theorem dX9_compare_91 : decode cX9_compare 91 = .ok (.iconst 1, 1) := by decide +kernel
theorem dX9_compare_92 : decode cX9_compare 92 = .ok (.iadd, 1) := by decide +kernel
theorem dX9_compare_93 : decode cX9_compare 93 = .ok (.ireturn, 1) := by decide +kernel
set_option maxRecDepth 20000 in
theorem ggX9_load_X9_systemAt : GoodIn wsX9_load wsX9_systemAt := goodIn_r _ [9, 10, 98, 99, 100, 101, 102] (by decide +kernel) (by decide +kernel)
set_option maxRecDepth 20000 in
theorem gX9_load_X9_systemAt : GoodIn wsX9_load (wsV RX9 45 RX9 yX9_systemAt wsX9_systemAt) := goodIn_app (goodIn_of _ (by decide +kernel)) ggX9_load_X9_systemAt
set_option maxRecDepth 20000 in
theorem ggX9_load_X9_rowAt : GoodIn wsX9_load wsX9_rowAt := goodIn_r _ [14, 15, 98, 99, 100, 101, 102] (by decide +kernel) (by decide +kernel)
set_option maxRecDepth 20000 in
theorem gX9_load_X9_rowAt : GoodIn wsX9_load (wsV RX9 176 RX9 yX9_rowAt wsX9_rowAt) := goodIn_app (goodIn_of _ (by decide +kernel)) ggX9_load_X9_rowAt
set_option maxRecDepth 20000 in
theorem ggX9_load_X9_isWithin : GoodIn wsX9_load wsX9_isWithin := goodIn_r _ [18] (by decide +kernel) (by decide +kernel)
set_option maxRecDepth 20000 in
theorem gX9_load_X9_isWithin : GoodIn wsX9_load (va_wsS RX9 69 yX9_isWithin wsX9_isWithin) := goodIn_app (goodIn_of _ (by decide +kernel)) ggX9_load_X9_isWithin
set_option maxRecDepth 20000 in
theorem ggX9_load_X9_expandInto : GoodIn wsX9_load wsX9_expandInto := goodIn_r _ [21, 22, 23, 24, 25, 26, 27, 28, 29, 30, 31, 32, 33, 34, 35, 36, 37, 38, 39, 40, 41, 42, 43, 44, 45, 46, 47, 48, 49, 50, 51, 52, 53, 54, 55, 56, 57, 58, 59, 60, 61, 62, 63, 64, 65, 66, 67, 68, 69, 70, 71, 72, 73, 74, 75, 76, 77, 78, 79, 80, 81, 82, 83, 84, 85, 86, 87, 88, 89, 90, 103, 104, 105, 106, 107, 108, 109, 110, 111, 91, 92, 93, 94, 95, 96, 97] (by decide +kernel) (by decide +kernel)
set_option maxRecDepth 20000 in
theorem gX9_load_X9_expandInto : GoodIn wsX9_load (va_wsS RX9 202 yX9_expandInto wsX9_expandInto) := goodIn_app (goodIn_of _ (by decide +kernel)) ggX9_load_X9_expandInto
theorem dX9_load_0 : decode cX9_load 0 = .ok (.aload_n 0, 1) := by decide +kernel
theorem dX9_load_1 : decode cX9_load 1 = .ok (.iload_n 1, 1) := by decide +kernel
theorem dX9_load_2 : decode cX9_load 2 = .ok (.invokevirtual 45, 3) := by decide +kernel
theorem dX9_load_5 : decode cX9_load 5 = .ok (.astore 4, 2) := by decide +kernel
theorem dX9_load_7 : decode cX9_load 7 = .ok (.aload_n 0, 1) := by decide +kernel
theorem dX9_load_8 : decode cX9_load 8 = .ok (.iload_n 3, 1) := by decide +kernel
theorem dX9_load_9 : decode cX9_load 9 = .ok (.invokevirtual 176, 3) := by decide +kernel
theorem dX9_load_12 : decode cX9_load 12 = .ok (.astore 5, 2) := by decide +kernel
theorem dX9_load_14 : decode cX9_load 14 = .ok (.aload 4, 2) := by decide +kernel
theorem dX9_load_16 : decode cX9_load 16 = .ok (.ifnull 8, 3) := by decide +kernel
theorem dX9_load_19 : decode cX9_load 19 = .ok (.aload 5, 2) := by decide +kernel
theorem dX9_load_21 : decode cX9_load 21 = .ok (.ifnonnull 6, 3) := by decide +kernel
theorem dX9_load_24 : decode cX9_load 24 = .ok (.ldc 49, 2) := by decide +kernel
theorem dX9_load_26 : decode cX9_load 26 = .ok (.ireturn, 1) := by decide +kernel
theorem dX9_load_27 : decode cX9_load 27 = .ok (.iload_n 2, 1) := by decide +kernel
theorem dX9_load_28 : decode cX9_load 28 = .ok (.ldc 135, 2) := by decide +kernel
theorem dX9_load_30 : decode cX9_load 30 = .ok (.invokestatic 69, 3) := by decide +kernel
theorem dX9_load_33 : decode cX9_load 33 = .ok (.ifCond .ne 6, 3) := by decide +kernel
theorem dX9_load_36 : decode cX9_load 36 = .ok (.ldc 54, 2) := by decide +kernel
theorem dX9_load_38 : decode cX9_load 38 = .ok (.ireturn, 1) := by decide +kernel
theorem dX9_load_39 : decode cX9_load 39 = .ok (.aload 4, 2) := by decide +kernel
theorem dX9_load_41 : decode cX9_load 41 = .ok (.getfield 55, 3) := by decide +kernel
theorem dX9_load_44 : decode cX9_load 44 = .ok (.getfield 103, 3) := by decide +kernel
theorem dX9_load_47 : decode cX9_load 47 = .ok (.ifCond .ne 6, 3) := by decide +kernel
theorem dX9_load_50 : decode cX9_load 50 = .ok (.ldc 115, 2) := by decide +kernel
theorem dX9_load_52 : decode cX9_load 52 = .ok (.ireturn, 1) := by decide +kernel
theorem dX9_load_53 : decode cX9_load 53 = .ok (.aload 4, 2) := by decide +kernel
theorem dX9_load_55 : decode cX9_load 55 = .ok (.iload_n 2, 1) := by decide +kernel
theorem dX9_load_56 : decode cX9_load 56 = .ok (.aload 5, 2) := by decide +kernel
theorem dX9_load_58 : decode cX9_load 58 = .ok (.invokestatic 202, 3) := by decide +kernel
theorem dX9_load_61 : decode cX9_load 61 = .ok (.ireturn, 1) := by decide +kernel
set_option maxRecDepth 20000 in
theorem ggX9_add_X9_systemAt : GoodIn wsX9_add wsX9_systemAt := goodIn_r _ [8, 9, 90, 91, 92, 93, 94] (by decide +kernel) (by decide +kernel)
set_option maxRecDepth 20000 in
theorem gX9_add_X9_systemAt : GoodIn wsX9_add (wsV RX9 45 RX9 yX9_systemAt wsX9_systemAt) := goodIn_app (goodIn_of _ (by decide +kernel)) ggX9_add_X9_systemAt
set_option maxRecDepth 20000 in
theorem ggX9_add_X9_rowAt : GoodIn wsX9_add wsX9_rowAt := goodIn_r _ [13, 14, 90, 91, 92, 93, 94] (by decide +kernel) (by decide +kernel)
set_option maxRecDepth 20000 in
theorem gX9_add_X9_rowAt : GoodIn wsX9_add (wsV RX9 176 RX9 yX9_rowAt wsX9_rowAt) := goodIn_app (goodIn_of _ (by decide +kernel)) ggX9_add_X9_rowAt
set_option maxRecDepth 20000 in
theorem ggX9_add_X2_giveSums : GoodIn wsX9_add wsX2_giveSums := goodIn_r _ [18, 19, 20, 21, 22, 23, 24, 25, 26, 27, 28, 29, 30, 95, 96, 97, 98, 99] (by decide +kernel) (by decide +kernel)
set_option maxRecDepth 20000 in
theorem gX9_add_X2_giveSums_n206 : GoodIn wsX9_add (wsX2_giveSums) := ggX9_add_X2_giveSums
set_option maxRecDepth 20000 in
theorem ggX9_add_X9_compute : GoodIn wsX9_add wsX9_compute := goodIn_r _ [34, 3, 35, 36, 16, 37, 38, 39, 24, 40, 41, 42, 43, 23, 44, 45, 46, 47, 48, 49, 50, 51, 52, 53, 54, 55, 56, 57, 58, 59, 26, 60, 61, 29, 30, 62, 63, 64, 65, 66, 67, 68, 69, 70, 71, 72, 73, 74, 25, 27, 28, 75, 76, 77, 90, 91, 92, 93, 94, 78, 79, 80, 81, 82, 97, 98, 99, 95, 96, 83, 84, 85, 86, 87, 88, 89] (by decide +kernel) (by decide +kernel)
set_option maxRecDepth 20000 in
theorem gX9_add_X9_compute : GoodIn wsX9_add (wsV RX9 210 RX9 yX9_compute wsX9_compute) := goodIn_app (goodIn_of _ (by decide +kernel)) ggX9_add_X9_compute
theorem dX9_add_0 : decode cX9_add 0 = .ok (.aload_n 0, 1) := by decide +kernel
theorem dX9_add_1 : decode cX9_add 1 = .ok (.iload_n 1, 1) := by decide +kernel
theorem dX9_add_2 : decode cX9_add 2 = .ok (.invokevirtual 45, 3) := by decide +kernel
theorem dX9_add_5 : decode cX9_add 5 = .ok (.astore 5, 2) := by decide +kernel
theorem dX9_add_7 : decode cX9_add 7 = .ok (.aload_n 0, 1) := by decide +kernel
theorem dX9_add_8 : decode cX9_add 8 = .ok (.iload_n 2, 1) := by decide +kernel
theorem dX9_add_9 : decode cX9_add 9 = .ok (.invokevirtual 176, 3) := by decide +kernel
theorem dX9_add_12 : decode cX9_add 12 = .ok (.astore 6, 2) := by decide +kernel
theorem dX9_add_14 : decode cX9_add 14 = .ok (.aload_n 0, 1) := by decide +kernel
theorem dX9_add_15 : decode cX9_add 15 = .ok (.iload_n 3, 1) := by decide +kernel
theorem dX9_add_16 : decode cX9_add 16 = .ok (.invokevirtual 176, 3) := by decide +kernel
theorem dX9_add_19 : decode cX9_add 19 = .ok (.astore 7, 2) := by decide +kernel
theorem dX9_add_21 : decode cX9_add 21 = .ok (.aload_n 0, 1) := by decide +kernel
theorem dX9_add_22 : decode cX9_add 22 = .ok (.iload 4, 2) := by decide +kernel
theorem dX9_add_24 : decode cX9_add 24 = .ok (.invokevirtual 176, 3) := by decide +kernel
theorem dX9_add_27 : decode cX9_add 27 = .ok (.astore 8, 2) := by decide +kernel
theorem dX9_add_29 : decode cX9_add 29 = .ok (.aload 5, 2) := by decide +kernel
theorem dX9_add_31 : decode cX9_add 31 = .ok (.ifnull 18, 3) := by decide +kernel
theorem dX9_add_34 : decode cX9_add 34 = .ok (.aload 6, 2) := by decide +kernel
theorem dX9_add_36 : decode cX9_add 36 = .ok (.ifnull 13, 3) := by decide +kernel
theorem dX9_add_39 : decode cX9_add 39 = .ok (.aload 7, 2) := by decide +kernel
theorem dX9_add_41 : decode cX9_add 41 = .ok (.ifnull 8, 3) := by decide +kernel
theorem dX9_add_44 : decode cX9_add 44 = .ok (.aload 8, 2) := by decide +kernel
theorem dX9_add_46 : decode cX9_add 46 = .ok (.ifnonnull 6, 3) := by decide +kernel
theorem dX9_add_49 : decode cX9_add 49 = .ok (.ldc 49, 2) := by decide +kernel
theorem dX9_add_51 : decode cX9_add 51 = .ok (.ireturn, 1) := by decide +kernel
theorem dX9_add_52 : decode cX9_add 52 = .ok (.aload 5, 2) := by decide +kernel
theorem dX9_add_54 : decode cX9_add 54 = .ok (.getfield 55, 3) := by decide +kernel
theorem dX9_add_57 : decode cX9_add 57 = .ok (.getfield 103, 3) := by decide +kernel
theorem dX9_add_60 : decode cX9_add 60 = .ok (.ifCond .ne 6, 3) := by decide +kernel
theorem dX9_add_63 : decode cX9_add 63 = .ok (.ldc 115, 2) := by decide +kernel
theorem dX9_add_65 : decode cX9_add 65 = .ok (.ireturn, 1) := by decide +kernel
theorem dX9_add_66 : decode cX9_add 66 = .ok (.aload_n 0, 1) := by decide +kernel
theorem dX9_add_67 : decode cX9_add 67 = .ok (.getfield 26, 3) := by decide +kernel
theorem dX9_add_70 : decode cX9_add 70 = .ok (.aload 6, 2) := by decide +kernel
theorem dX9_add_72 : decode cX9_add 72 = .ok (.aload 7, 2) := by decide +kernel
theorem dX9_add_74 : decode cX9_add 74 = .ok (.invokevirtual 206, 3) := by decide +kernel
theorem dX9_add_77 : decode cX9_add 77 = .ok (.aload_n 0, 1) := by decide +kernel
theorem dX9_add_78 : decode cX9_add 78 = .ok (.aload 5, 2) := by decide +kernel
theorem dX9_add_80 : decode cX9_add 80 = .ok (.aload 8, 2) := by decide +kernel
theorem dX9_add_82 : decode cX9_add 82 = .ok (.invokevirtual 210, 3) := by decide +kernel
theorem dX9_add_85 : decode cX9_add 85 = .ok (.ireturn, 1) := by decide +kernel
set_option maxRecDepth 20000 in
theorem ggX9_multiply_X9_systemAt : GoodIn wsX9_multiply wsX9_systemAt := goodIn_r _ [9, 10, 90, 91, 92, 93, 94] (by decide +kernel) (by decide +kernel)
set_option maxRecDepth 20000 in
theorem gX9_multiply_X9_systemAt : GoodIn wsX9_multiply (wsV RX9 45 RX9 yX9_systemAt wsX9_systemAt) := goodIn_app (goodIn_of _ (by decide +kernel)) ggX9_multiply_X9_systemAt
set_option maxRecDepth 20000 in
theorem ggX9_multiply_X9_rowAt : GoodIn wsX9_multiply wsX9_rowAt := goodIn_r _ [14, 15, 90, 91, 92, 93, 94] (by decide +kernel) (by decide +kernel)
set_option maxRecDepth 20000 in
theorem gX9_multiply_X9_rowAt : GoodIn wsX9_multiply (wsV RX9 176 RX9 yX9_rowAt wsX9_rowAt) := goodIn_app (goodIn_of _ (by decide +kernel)) ggX9_multiply_X9_rowAt
set_option maxRecDepth 20000 in
theorem ggX9_multiply_X9_isWithin : GoodIn wsX9_multiply wsX9_isWithin := goodIn_r _ [18] (by decide +kernel) (by decide +kernel)
set_option maxRecDepth 20000 in
theorem gX9_multiply_X9_isWithin : GoodIn wsX9_multiply (va_wsS RX9 69 yX9_isWithin wsX9_isWithin) := goodIn_app (goodIn_of _ (by decide +kernel)) ggX9_multiply_X9_isWithin
set_option maxRecDepth 20000 in
theorem ggX9_multiply_X2_giveMultiples : GoodIn wsX9_multiply wsX2_giveMultiples := goodIn_r _ [22, 23, 24, 25, 26, 27, 28, 29, 30, 95, 96, 97, 98, 99] (by decide +kernel) (by decide +kernel)
set_option maxRecDepth 20000 in
theorem gX9_multiply_X2_giveMultiples_n214 : GoodIn wsX9_multiply (wsX2_giveMultiples) := ggX9_multiply_X2_giveMultiples
set_option maxRecDepth 20000 in
theorem ggX9_multiply_X9_compute : GoodIn wsX9_multiply wsX9_compute := goodIn_r _ [34, 4, 35, 36, 20, 37, 38, 39, 24, 40, 41, 42, 43, 23, 44, 45, 46, 47, 48, 49, 50, 51, 52, 53, 54, 55, 56, 57, 58, 59, 26, 60, 61, 29, 30, 62, 63, 64, 65, 66, 67, 68, 69, 70, 71, 72, 73, 74, 25, 27, 28, 75, 76, 77, 90, 91, 92, 93, 94, 78, 79, 80, 81, 82, 97, 98, 99, 95, 96, 83, 84, 85, 86, 87, 88, 89] (by decide +kernel) (by decide +kernel)
set_option maxRecDepth 20000 in
theorem gX9_multiply_X9_compute : GoodIn wsX9_multiply (wsV RX9 210 RX9 yX9_compute wsX9_compute) := goodIn_app (goodIn_of _ (by decide +kernel)) ggX9_multiply_X9_compute
theorem dX9_multiply_0 : decode cX9_multiply 0 = .ok (.aload_n 0, 1) := by decide +kernel
theorem dX9_multiply_1 : decode cX9_multiply 1 = .ok (.iload_n 1, 1) := by decide +kernel
theorem dX9_multiply_2 : decode cX9_multiply 2 = .ok (.invokevirtual 45, 3) := by decide +kernel
theorem dX9_multiply_5 : decode cX9_multiply 5 = .ok (.astore 5, 2) := by decide +kernel
theorem dX9_multiply_7 : decode cX9_multiply 7 = .ok (.aload_n 0, 1) := by decide +kernel
theorem dX9_multiply_8 : decode cX9_multiply 8 = .ok (.iload_n 2, 1) := by decide +kernel
theorem dX9_multiply_9 : decode cX9_multiply 9 = .ok (.invokevirtual 176, 3) := by decide +kernel
theorem dX9_multiply_12 : decode cX9_multiply 12 = .ok (.astore 6, 2) := by decide +kernel
theorem dX9_multiply_14 : decode cX9_multiply 14 = .ok (.aload_n 0, 1) := by decide +kernel
theorem dX9_multiply_15 : decode cX9_multiply 15 = .ok (.iload 4, 2) := by decide +kernel
theorem dX9_multiply_17 : decode cX9_multiply 17 = .ok (.invokevirtual 176, 3) := by decide +kernel
theorem dX9_multiply_20 : decode cX9_multiply 20 = .ok (.astore 7, 2) := by decide +kernel
theorem dX9_multiply_22 : decode cX9_multiply 22 = .ok (.aload 5, 2) := by decide +kernel
theorem dX9_multiply_24 : decode cX9_multiply 24 = .ok (.ifnull 13, 3) := by decide +kernel
theorem dX9_multiply_27 : decode cX9_multiply 27 = .ok (.aload 6, 2) := by decide +kernel
theorem dX9_multiply_29 : decode cX9_multiply 29 = .ok (.ifnull 8, 3) := by decide +kernel
theorem dX9_multiply_32 : decode cX9_multiply 32 = .ok (.aload 7, 2) := by decide +kernel
theorem dX9_multiply_34 : decode cX9_multiply 34 = .ok (.ifnonnull 6, 3) := by decide +kernel
theorem dX9_multiply_37 : decode cX9_multiply 37 = .ok (.ldc 49, 2) := by decide +kernel
theorem dX9_multiply_39 : decode cX9_multiply 39 = .ok (.ireturn, 1) := by decide +kernel
theorem dX9_multiply_40 : decode cX9_multiply 40 = .ok (.iload_n 3, 1) := by decide +kernel
theorem dX9_multiply_41 : decode cX9_multiply 41 = .ok (.bipush 100, 2) := by decide +kernel
theorem dX9_multiply_43 : decode cX9_multiply 43 = .ok (.invokestatic 69, 3) := by decide +kernel
theorem dX9_multiply_46 : decode cX9_multiply 46 = .ok (.ifCond .ne 6, 3) := by decide +kernel
theorem dX9_multiply_49 : decode cX9_multiply 49 = .ok (.ldc 54, 2) := by decide +kernel
theorem dX9_multiply_51 : decode cX9_multiply 51 = .ok (.ireturn, 1) := by decide +kernel
theorem dX9_multiply_52 : decode cX9_multiply 52 = .ok (.aload 5, 2) := by decide +kernel
theorem dX9_multiply_54 : decode cX9_multiply 54 = .ok (.getfield 55, 3) := by decide +kernel
theorem dX9_multiply_57 : decode cX9_multiply 57 = .ok (.getfield 103, 3) := by decide +kernel
theorem dX9_multiply_60 : decode cX9_multiply 60 = .ok (.ifCond .ne 6, 3) := by decide +kernel
theorem dX9_multiply_63 : decode cX9_multiply 63 = .ok (.ldc 115, 2) := by decide +kernel
theorem dX9_multiply_65 : decode cX9_multiply 65 = .ok (.ireturn, 1) := by decide +kernel
theorem dX9_multiply_66 : decode cX9_multiply 66 = .ok (.aload_n 0, 1) := by decide +kernel
theorem dX9_multiply_67 : decode cX9_multiply 67 = .ok (.getfield 26, 3) := by decide +kernel
theorem dX9_multiply_70 : decode cX9_multiply 70 = .ok (.aload 6, 2) := by decide +kernel
theorem dX9_multiply_72 : decode cX9_multiply 72 = .ok (.iload_n 3, 1) := by decide +kernel
theorem dX9_multiply_73 : decode cX9_multiply 73 = .ok (.invokevirtual 214, 3) := by decide +kernel
theorem dX9_multiply_76 : decode cX9_multiply 76 = .ok (.aload_n 0, 1) := by decide +kernel
theorem dX9_multiply_77 : decode cX9_multiply 77 = .ok (.aload 5, 2) := by decide +kernel
theorem dX9_multiply_79 : decode cX9_multiply 79 = .ok (.aload 7, 2) := by decide +kernel
theorem dX9_multiply_81 : decode cX9_multiply 81 = .ok (.invokevirtual 210, 3) := by decide +kernel
theorem dX9_multiply_84 : decode cX9_multiply 84 = .ok (.ireturn, 1) := by decide +kernel
set_option maxRecDepth 20000 in
theorem ggX9_convert_X9_systemAt : GoodIn wsX9_convert wsX9_systemAt := goodIn_r _ [11, 12, 111, 112, 113, 114, 115] (by decide +kernel) (by decide +kernel)
set_option maxRecDepth 20000 in
theorem gX9_convert_X9_systemAt : GoodIn wsX9_convert (wsV RX9 45 RX9 yX9_systemAt wsX9_systemAt) := goodIn_app (goodIn_of _ (by decide +kernel)) ggX9_convert_X9_systemAt
set_option maxRecDepth 20000 in
theorem ggX9_convert_X9_rowAt : GoodIn wsX9_convert wsX9_rowAt := goodIn_r _ [16, 17, 111, 112, 113, 114, 115] (by decide +kernel) (by decide +kernel)
set_option maxRecDepth 20000 in
theorem gX9_convert_X9_rowAt : GoodIn wsX9_convert (wsV RX9 176 RX9 yX9_rowAt wsX9_rowAt) := goodIn_app (goodIn_of _ (by decide +kernel)) ggX9_convert_X9_rowAt
set_option maxRecDepth 20000 in
theorem ggX9_convert_X4_read : GoodIn wsX9_convert wsX4_read := goodIn_r _ [21, 22, 23, 24, 25, 26, 27, 28, 29, 30, 10, 31, 32, 33, 34, 35, 116, 117, 118, 119, 104, 105, 106, 107, 108, 109, 110] (by decide +kernel) (by decide +kernel)
set_option maxRecDepth 20000 in
theorem gX9_convert_X4_read_n187 : GoodIn wsX9_convert (wsX4_read) := ggX9_convert_X4_read
set_option maxRecDepth 20000 in
theorem ggX9_convert_X9_expandInto : GoodIn wsX9_convert wsX9_expandInto := goodIn_r _ [38, 6, 39, 40, 41, 42, 43, 44, 45, 46, 47, 48, 49, 50, 51, 52, 53, 54, 55, 56, 57, 58, 59, 60, 61, 62, 63, 64, 65, 66, 67, 68, 69, 70, 71, 72, 73, 74, 75, 76, 77, 78, 79, 80, 81, 82, 83, 84, 85, 86, 87, 88, 89, 90, 91, 92, 93, 94, 95, 96, 25, 97, 98, 28, 29, 99, 100, 101, 102, 103, 120, 121, 122, 123, 124, 125, 126, 118, 119, 104, 105, 106, 107, 108, 109, 110] (by decide +kernel) (by decide +kernel)
set_option maxRecDepth 20000 in
theorem gX9_convert_X9_expandInto : GoodIn wsX9_convert (va_wsS RX9 202 yX9_expandInto wsX9_expandInto) := goodIn_app (goodIn_of _ (by decide +kernel)) ggX9_convert_X9_expandInto
theorem dX9_convert_0 : decode cX9_convert 0 = .ok (.aload_n 0, 1) := by decide +kernel
theorem dX9_convert_1 : decode cX9_convert 1 = .ok (.iload_n 1, 1) := by decide +kernel
theorem dX9_convert_2 : decode cX9_convert 2 = .ok (.invokevirtual 45, 3) := by decide +kernel
theorem dX9_convert_5 : decode cX9_convert 5 = .ok (.astore 4, 2) := by decide +kernel
theorem dX9_convert_7 : decode cX9_convert 7 = .ok (.aload_n 0, 1) := by decide +kernel
theorem dX9_convert_8 : decode cX9_convert 8 = .ok (.iconst 1, 1) := by decide +kernel
theorem dX9_convert_9 : decode cX9_convert 9 = .ok (.iload_n 1, 1) := by decide +kernel
theorem dX9_convert_10 : decode cX9_convert 10 = .ok (.isub, 1) := by decide +kernel
theorem dX9_convert_11 : decode cX9_convert 11 = .ok (.invokevirtual 45, 3) := by decide +kernel
theorem dX9_convert_14 : decode cX9_convert 14 = .ok (.astore 5, 2) := by decide +kernel
theorem dX9_convert_16 : decode cX9_convert 16 = .ok (.aload_n 0, 1) := by decide +kernel
theorem dX9_convert_17 : decode cX9_convert 17 = .ok (.iload_n 2, 1) := by decide +kernel
theorem dX9_convert_18 : decode cX9_convert 18 = .ok (.invokevirtual 176, 3) := by decide +kernel
theorem dX9_convert_21 : decode cX9_convert 21 = .ok (.astore 6, 2) := by decide +kernel
theorem dX9_convert_23 : decode cX9_convert 23 = .ok (.aload_n 0, 1) := by decide +kernel
theorem dX9_convert_24 : decode cX9_convert 24 = .ok (.iload_n 3, 1) := by decide +kernel
theorem dX9_convert_25 : decode cX9_convert 25 = .ok (.invokevirtual 176, 3) := by decide +kernel
theorem dX9_convert_28 : decode cX9_convert 28 = .ok (.astore 7, 2) := by decide +kernel
theorem dX9_convert_30 : decode cX9_convert 30 = .ok (.aload 4, 2) := by decide +kernel
theorem dX9_convert_32 : decode cX9_convert 32 = .ok (.ifnull 18, 3) := by decide +kernel
theorem dX9_convert_35 : decode cX9_convert 35 = .ok (.aload 5, 2) := by decide +kernel
theorem dX9_convert_37 : decode cX9_convert 37 = .ok (.ifnull 13, 3) := by decide +kernel
theorem dX9_convert_40 : decode cX9_convert 40 = .ok (.aload 6, 2) := by decide +kernel
theorem dX9_convert_42 : decode cX9_convert 42 = .ok (.ifnull 8, 3) := by decide +kernel
theorem dX9_convert_45 : decode cX9_convert 45 = .ok (.aload 7, 2) := by decide +kernel
theorem dX9_convert_47 : decode cX9_convert 47 = .ok (.ifnonnull 6, 3) := by decide +kernel
theorem dX9_convert_50 : decode cX9_convert 50 = .ok (.ldc 49, 2) := by decide +kernel
theorem dX9_convert_52 : decode cX9_convert 52 = .ok (.ireturn, 1) := by decide +kernel
theorem dX9_convert_53 : decode cX9_convert 53 = .ok (.aload 5, 2) := by decide +kernel
theorem dX9_convert_55 : decode cX9_convert 55 = .ok (.getfield 55, 3) := by decide +kernel
theorem dX9_convert_58 : decode cX9_convert 58 = .ok (.getfield 103, 3) := by decide +kernel
theorem dX9_convert_61 : decode cX9_convert 61 = .ok (.ifCond .ne 6, 3) := by decide +kernel
theorem dX9_convert_64 : decode cX9_convert 64 = .ok (.ldc 115, 2) := by decide +kernel
theorem dX9_convert_66 : decode cX9_convert 66 = .ok (.ireturn, 1) := by decide +kernel
theorem dX9_convert_67 : decode cX9_convert 67 = .ok (.aload_n 0, 1) := by decide +kernel
theorem dX9_convert_68 : decode cX9_convert 68 = .ok (.getfield 33, 3) := by decide +kernel
theorem dX9_convert_71 : decode cX9_convert 71 = .ok (.aload 4, 2) := by decide +kernel
theorem dX9_convert_73 : decode cX9_convert 73 = .ok (.getfield 55, 3) := by decide +kernel
theorem dX9_convert_76 : decode cX9_convert 76 = .ok (.aload 6, 2) := by decide +kernel
theorem dX9_convert_78 : decode cX9_convert 78 = .ok (.invokevirtual 187, 3) := by decide +kernel
theorem dX9_convert_81 : decode cX9_convert 81 = .ok (.aload_n 0, 1) := by decide +kernel
theorem dX9_convert_82 : decode cX9_convert 82 = .ok (.getfield 33, 3) := by decide +kernel
theorem dX9_convert_85 : decode cX9_convert 85 = .ok (.getfield 191, 3) := by decide +kernel
theorem dX9_convert_88 : decode cX9_convert 88 = .ok (.lconst 1, 1) := by decide +kernel
theorem dX9_convert_89 : decode cX9_convert 89 = .ok (.lcmp, 1) := by decide +kernel
theorem dX9_convert_90 : decode cX9_convert 90 = .ok (.ifCond .ne 31, 3) := by decide +kernel
theorem dX9_convert_93 : decode cX9_convert 93 = .ok (.aload_n 0, 1) := by decide +kernel
theorem dX9_convert_94 : decode cX9_convert 94 = .ok (.getfield 33, 3) := by decide +kernel
theorem dX9_convert_97 : decode cX9_convert 97 = .ok (.getfield 195, 3) := by decide +kernel
theorem dX9_convert_100 : decode cX9_convert 100 = .ok (.ldc2_w 218, 3) := by decide +kernel
theorem dX9_convert_103 : decode cX9_convert 103 = .ok (.lcmp, 1) := by decide +kernel
theorem dX9_convert_104 : decode cX9_convert 104 = .ok (.ifCond .lt 17, 3) := by decide +kernel
theorem dX9_convert_107 : decode cX9_convert 107 = .ok (.aload_n 0, 1) := by decide +kernel
theorem dX9_convert_108 : decode cX9_convert 108 = .ok (.getfield 33, 3) := by decide +kernel
theorem dX9_convert_111 : decode cX9_convert 111 = .ok (.getfield 195, 3) := by decide +kernel
theorem dX9_convert_114 : decode cX9_convert 114 = .ok (.ldc2_w 220, 3) := by decide +kernel
theorem dX9_convert_117 : decode cX9_convert 117 = .ok (.lcmp, 1) := by decide +kernel
theorem dX9_convert_118 : decode cX9_convert 118 = .ok (.ifCond .le 6, 3) := by decide +kernel
theorem dX9_convert_121 : decode cX9_convert 121 = .ok (.ldc 76, 2) := by decide +kernel
theorem dX9_convert_123 : decode cX9_convert 123 = .ok (.ireturn, 1) := by decide +kernel
theorem dX9_convert_124 : decode cX9_convert 124 = .ok (.aload 5, 2) := by decide +kernel
theorem dX9_convert_126 : decode cX9_convert 126 = .ok (.aload_n 0, 1) := by decide +kernel
theorem dX9_convert_127 : decode cX9_convert 127 = .ok (.getfield 33, 3) := by decide +kernel
theorem dX9_convert_130 : decode cX9_convert 130 = .ok (.getfield 195, 3) := by decide +kernel
theorem dX9_convert_133 : decode cX9_convert 133 = .ok (.l2i, 1) := by decide +kernel
theorem dX9_convert_134 : decode cX9_convert 134 = .ok (.aload 7, 2) := by decide +kernel
theorem dX9_convert_136 : decode cX9_convert 136 = .ok (.invokestatic 202, 3) := by decide +kernel
theorem dX9_convert_139 : decode cX9_convert 139 = .ok (.ireturn, 1) := by decide +kernel
set_option maxRecDepth 20000 in
theorem ggX9_nextCarry_X9_systemAt : GoodIn wsX9_nextCarry wsX9_systemAt := goodIn_r _ [8, 9, 46, 47, 48, 49, 50] (by decide +kernel) (by decide +kernel)
set_option maxRecDepth 20000 in
theorem gX9_nextCarry_X9_systemAt : GoodIn wsX9_nextCarry (wsV RX9 45 RX9 yX9_systemAt wsX9_systemAt) := goodIn_app (goodIn_of _ (by decide +kernel)) ggX9_nextCarry_X9_systemAt
set_option maxRecDepth 20000 in
theorem ggX9_nextCarry_X9_isWithin : GoodIn wsX9_nextCarry wsX9_isWithin := goodIn_r _ [12] (by decide +kernel) (by decide +kernel)
set_option maxRecDepth 20000 in
theorem gX9_nextCarry_X9_isWithin : GoodIn wsX9_nextCarry (va_wsS RX9 69 yX9_isWithin wsX9_isWithin) := goodIn_app (goodIn_of _ (by decide +kernel)) ggX9_nextCarry_X9_isWithin
set_option maxRecDepth 20000 in
theorem ggX9_nextCarry_X0_carryBehind : GoodIn wsX9_nextCarry wsX0_carryBehind := goodIn_r _ [16, 17, 18, 19, 20, 14, 21, 22, 23, 24, 25, 26, 27, 28, 29, 30, 31, 32, 33, 39, 40, 41, 42, 43, 44, 45] (by decide +kernel) (by decide +kernel)
set_option maxRecDepth 20000 in
theorem gX9_nextCarry_X0_carryBehind_n222 : GoodIn wsX9_nextCarry (wsX0_carryBehind) := ggX9_nextCarry_X0_carryBehind
theorem dX9_nextCarry_0 : decode cX9_nextCarry 0 = .ok (.aload_n 0, 1) := by decide +kernel
theorem dX9_nextCarry_1 : decode cX9_nextCarry 1 = .ok (.iload_n 1, 1) := by decide +kernel
theorem dX9_nextCarry_2 : decode cX9_nextCarry 2 = .ok (.invokevirtual 45, 3) := by decide +kernel
theorem dX9_nextCarry_5 : decode cX9_nextCarry 5 = .ok (.astore 4, 2) := by decide +kernel
theorem dX9_nextCarry_7 : decode cX9_nextCarry 7 = .ok (.aload 4, 2) := by decide +kernel
theorem dX9_nextCarry_9 : decode cX9_nextCarry 9 = .ok (.ifnonnull 6, 3) := by decide +kernel
theorem dX9_nextCarry_12 : decode cX9_nextCarry 12 = .ok (.ldc 49, 2) := by decide +kernel
theorem dX9_nextCarry_14 : decode cX9_nextCarry 14 = .ok (.ireturn, 1) := by decide +kernel
theorem dX9_nextCarry_15 : decode cX9_nextCarry 15 = .ok (.iload_n 2, 1) := by decide +kernel
theorem dX9_nextCarry_16 : decode cX9_nextCarry 16 = .ok (.sipush 10000, 3) := by decide +kernel
theorem dX9_nextCarry_19 : decode cX9_nextCarry 19 = .ok (.invokestatic 69, 3) := by decide +kernel
theorem dX9_nextCarry_22 : decode cX9_nextCarry 22 = .ok (.ifCond .eq 13, 3) := by decide +kernel
theorem dX9_nextCarry_25 : decode cX9_nextCarry 25 = .ok (.iload_n 3, 1) := by decide +kernel
theorem dX9_nextCarry_26 : decode cX9_nextCarry 26 = .ok (.sipush 2000, 3) := by decide +kernel
theorem dX9_nextCarry_29 : decode cX9_nextCarry 29 = .ok (.invokestatic 69, 3) := by decide +kernel
theorem dX9_nextCarry_32 : decode cX9_nextCarry 32 = .ok (.ifCond .ne 6, 3) := by decide +kernel
theorem dX9_nextCarry_35 : decode cX9_nextCarry 35 = .ok (.ldc 54, 2) := by decide +kernel
theorem dX9_nextCarry_37 : decode cX9_nextCarry 37 = .ok (.ireturn, 1) := by decide +kernel
theorem dX9_nextCarry_38 : decode cX9_nextCarry 38 = .ok (.aload 4, 2) := by decide +kernel
theorem dX9_nextCarry_40 : decode cX9_nextCarry 40 = .ok (.getfield 55, 3) := by decide +kernel
theorem dX9_nextCarry_43 : decode cX9_nextCarry 43 = .ok (.getfield 103, 3) := by decide +kernel
theorem dX9_nextCarry_46 : decode cX9_nextCarry 46 = .ok (.ifCond .ne 6, 3) := by decide +kernel
theorem dX9_nextCarry_49 : decode cX9_nextCarry 49 = .ok (.ldc 115, 2) := by decide +kernel
theorem dX9_nextCarry_51 : decode cX9_nextCarry 51 = .ok (.ireturn, 1) := by decide +kernel
theorem dX9_nextCarry_52 : decode cX9_nextCarry 52 = .ok (.aload 4, 2) := by decide +kernel
theorem dX9_nextCarry_54 : decode cX9_nextCarry 54 = .ok (.getfield 55, 3) := by decide +kernel
theorem dX9_nextCarry_57 : decode cX9_nextCarry 57 = .ok (.iload_n 2, 1) := by decide +kernel
theorem dX9_nextCarry_58 : decode cX9_nextCarry 58 = .ok (.iload_n 3, 1) := by decide +kernel
theorem dX9_nextCarry_59 : decode cX9_nextCarry 59 = .ok (.invokevirtual 222, 3) := by decide +kernel
theorem dX9_nextCarry_62 : decode cX9_nextCarry 62 = .ok (.ireturn, 1) := by decide +kernel
set_option maxRecDepth 20000 in
theorem ggX9_carryCount_X9_systemAt : GoodIn wsX9_carryCount wsX9_systemAt := goodIn_r _ [7, 8, 70, 71, 72, 73, 74] (by decide +kernel) (by decide +kernel)
set_option maxRecDepth 20000 in
theorem gX9_carryCount_X9_systemAt : GoodIn wsX9_carryCount (wsV RX9 45 RX9 yX9_systemAt wsX9_systemAt) := goodIn_app (goodIn_of _ (by decide +kernel)) ggX9_carryCount_X9_systemAt
set_option maxRecDepth 20000 in
theorem ggX9_carryCount_X1_collect : GoodIn wsX9_carryCount wsX1_collect := goodIn_r _ [12, 13, 14, 15, 16, 17, 18, 19, 10, 20, 21, 22, 23, 24, 25, 26, 27, 28, 29, 30, 31, 32, 33, 34, 35, 36, 37, 38, 39, 40, 41, 42, 43, 44, 45, 46, 47, 48, 49, 50, 51, 52, 53, 66, 67, 68, 69, 59, 60, 61, 62, 63, 64, 65] (by decide +kernel) (by decide +kernel)
set_option maxRecDepth 20000 in
theorem gX9_carryCount_X1_collect_n230 : GoodIn wsX9_carryCount (wsX1_collect) := ggX9_carryCount_X1_collect
theorem dX9_carryCount_0 : decode cX9_carryCount 0 = .ok (.aload_n 0, 1) := by decide +kernel
theorem dX9_carryCount_1 : decode cX9_carryCount 1 = .ok (.iload_n 1, 1) := by decide +kernel
theorem dX9_carryCount_2 : decode cX9_carryCount 2 = .ok (.invokevirtual 45, 3) := by decide +kernel
theorem dX9_carryCount_5 : decode cX9_carryCount 5 = .ok (.astore_n 2, 1) := by decide +kernel
theorem dX9_carryCount_6 : decode cX9_carryCount 6 = .ok (.aload_n 2, 1) := by decide +kernel
theorem dX9_carryCount_7 : decode cX9_carryCount 7 = .ok (.ifnonnull 6, 3) := by decide +kernel
theorem dX9_carryCount_10 : decode cX9_carryCount 10 = .ok (.ldc 49, 2) := by decide +kernel
theorem dX9_carryCount_12 : decode cX9_carryCount 12 = .ok (.ireturn, 1) := by decide +kernel
theorem dX9_carryCount_13 : decode cX9_carryCount 13 = .ok (.aload_n 2, 1) := by decide +kernel
theorem dX9_carryCount_14 : decode cX9_carryCount 14 = .ok (.getfield 55, 3) := by decide +kernel
theorem dX9_carryCount_17 : decode cX9_carryCount 17 = .ok (.getfield 103, 3) := by decide +kernel
theorem dX9_carryCount_20 : decode cX9_carryCount 20 = .ok (.ifCond .ne 6, 3) := by decide +kernel
theorem dX9_carryCount_23 : decode cX9_carryCount 23 = .ok (.ldc 115, 2) := by decide +kernel
theorem dX9_carryCount_25 : decode cX9_carryCount 25 = .ok (.ireturn, 1) := by decide +kernel
theorem dX9_carryCount_26 : decode cX9_carryCount 26 = .ok (.aload_n 2, 1) := by decide +kernel
theorem dX9_carryCount_27 : decode cX9_carryCount 27 = .ok (.getfield 226, 3) := by decide +kernel
theorem dX9_carryCount_30 : decode cX9_carryCount 30 = .ok (.invokevirtual 230, 3) := by decide +kernel
theorem dX9_carryCount_33 : decode cX9_carryCount 33 = .ok (.aload_n 2, 1) := by decide +kernel
theorem dX9_carryCount_34 : decode cX9_carryCount 34 = .ok (.getfield 226, 3) := by decide +kernel
theorem dX9_carryCount_37 : decode cX9_carryCount 37 = .ok (.getfield 235, 3) := by decide +kernel
theorem dX9_carryCount_40 : decode cX9_carryCount 40 = .ok (.ireturn, 1) := by decide +kernel
set_option maxRecDepth 20000 in
theorem ggX9_carry_X9_systemAt : GoodIn wsX9_carry wsX9_systemAt := goodIn_r _ [8, 9, 71, 72, 73, 74, 75] (by decide +kernel) (by decide +kernel)
set_option maxRecDepth 20000 in
theorem gX9_carry_X9_systemAt : GoodIn wsX9_carry (wsV RX9 45 RX9 yX9_systemAt wsX9_systemAt) := goodIn_app (goodIn_of _ (by decide +kernel)) ggX9_carry_X9_systemAt
set_option maxRecDepth 20000 in
theorem ggX9_carry_X1_collect : GoodIn wsX9_carry wsX1_collect := goodIn_r _ [13, 14, 15, 16, 17, 18, 19, 20, 11, 21, 22, 23, 24, 25, 26, 27, 28, 29, 30, 31, 32, 33, 34, 35, 36, 37, 38, 39, 40, 41, 42, 43, 44, 45, 46, 47, 48, 49, 50, 51, 52, 53, 54, 76, 77, 78, 79, 64, 65, 66, 67, 68, 69, 70] (by decide +kernel) (by decide +kernel)
set_option maxRecDepth 20000 in
theorem gX9_carry_X1_collect_n230 : GoodIn wsX9_carry (wsX1_collect) := ggX9_carry_X1_collect
set_option maxRecDepth 20000 in
theorem ggX9_carry_X1_ascending : GoodIn wsX9_carry wsX1_ascending := goodIn_r _ [57, 15, 58, 76, 77, 78, 79] (by decide +kernel) (by decide +kernel)
set_option maxRecDepth 20000 in
theorem gX9_carry_X1_ascending_n236 : GoodIn wsX9_carry (wsX1_ascending) := ggX9_carry_X1_ascending
theorem dX9_carry_0 : decode cX9_carry 0 = .ok (.aload_n 0, 1) := by decide +kernel
theorem dX9_carry_1 : decode cX9_carry 1 = .ok (.iload_n 1, 1) := by decide +kernel
theorem dX9_carry_2 : decode cX9_carry 2 = .ok (.invokevirtual 45, 3) := by decide +kernel
theorem dX9_carry_5 : decode cX9_carry 5 = .ok (.astore_n 3, 1) := by decide +kernel
theorem dX9_carry_6 : decode cX9_carry 6 = .ok (.aload_n 3, 1) := by decide +kernel
theorem dX9_carry_7 : decode cX9_carry 7 = .ok (.ifnonnull 6, 3) := by decide +kernel
theorem dX9_carry_10 : decode cX9_carry 10 = .ok (.ldc 49, 2) := by decide +kernel
theorem dX9_carry_12 : decode cX9_carry 12 = .ok (.ireturn, 1) := by decide +kernel
theorem dX9_carry_13 : decode cX9_carry 13 = .ok (.iload_n 2, 1) := by decide +kernel
theorem dX9_carry_14 : decode cX9_carry 14 = .ok (.ifCond .ge 6, 3) := by decide +kernel
theorem dX9_carry_17 : decode cX9_carry 17 = .ok (.ldc 54, 2) := by decide +kernel
theorem dX9_carry_19 : decode cX9_carry 19 = .ok (.ireturn, 1) := by decide +kernel
theorem dX9_carry_20 : decode cX9_carry 20 = .ok (.aload_n 3, 1) := by decide +kernel
theorem dX9_carry_21 : decode cX9_carry 21 = .ok (.getfield 55, 3) := by decide +kernel
theorem dX9_carry_24 : decode cX9_carry 24 = .ok (.getfield 103, 3) := by decide +kernel
theorem dX9_carry_27 : decode cX9_carry 27 = .ok (.ifCond .ne 6, 3) := by decide +kernel
theorem dX9_carry_30 : decode cX9_carry 30 = .ok (.ldc 115, 2) := by decide +kernel
theorem dX9_carry_32 : decode cX9_carry 32 = .ok (.ireturn, 1) := by decide +kernel
theorem dX9_carry_33 : decode cX9_carry 33 = .ok (.aload_n 3, 1) := by decide +kernel
theorem dX9_carry_34 : decode cX9_carry 34 = .ok (.getfield 226, 3) := by decide +kernel
theorem dX9_carry_37 : decode cX9_carry 37 = .ok (.invokevirtual 230, 3) := by decide +kernel
theorem dX9_carry_40 : decode cX9_carry 40 = .ok (.aload_n 3, 1) := by decide +kernel
theorem dX9_carry_41 : decode cX9_carry 41 = .ok (.getfield 226, 3) := by decide +kernel
theorem dX9_carry_44 : decode cX9_carry 44 = .ok (.iload_n 2, 1) := by decide +kernel
theorem dX9_carry_45 : decode cX9_carry 45 = .ok (.invokevirtual 236, 3) := by decide +kernel
theorem dX9_carry_48 : decode cX9_carry 48 = .ok (.ireturn, 1) := by decide +kernel
set_option maxRecDepth 20000 in
theorem ggX9_newSystem_X0_init : GoodIn wsX9_newSystem wsX0_init := goodIn_r _ [20, 21, 22, 23, 24, 25, 26, 27, 28, 29, 3, 30, 31, 32, 33, 34, 35, 36, 37, 38, 39, 40, 41, 42, 43, 44, 45, 46, 47, 48, 49, 50, 51, 52, 53, 54, 55, 56, 57, 58, 59, 60, 95, 96, 97, 98, 99, 100, 101] (by decide +kernel) (by decide +kernel)
set_option maxRecDepth 20000 in
theorem gX9_newSystem_X0_init_n239 : GoodIn wsX9_newSystem (wsX0_init) := ggX9_newSystem_X0_init
set_option maxRecDepth 20000 in
theorem ggX9_newSystem_X7_init : GoodIn wsX9_newSystem wsX7_init := goodIn_r _ [62, 63, 22, 23, 64, 65, 66, 67, 107, 108, 109, 110, 111, 112, 113] (by decide +kernel) (by decide +kernel)
set_option maxRecDepth 20000 in
theorem gX9_newSystem_X7_init_n240 : GoodIn wsX9_newSystem (wsX7_init) := ggX9_newSystem_X7_init
set_option maxRecDepth 20000 in
theorem ggX9_newSystem_X3_init : GoodIn wsX9_newSystem wsX3_init := goodIn_r _ [69, 70, 22, 23, 71, 114] (by decide +kernel) (by decide +kernel)
set_option maxRecDepth 20000 in
theorem gX9_newSystem_X3_init_n243 : GoodIn wsX9_newSystem (wsX3_init) := ggX9_newSystem_X3_init
set_option maxRecDepth 20000 in
theorem ggX9_newSystem_X8_init : GoodIn wsX9_newSystem wsX8_init := goodIn_r _ [73, 74, 22, 23, 24, 75, 76, 77, 78, 79, 115, 116, 117, 118, 119, 120, 121] (by decide +kernel) (by decide +kernel)
set_option maxRecDepth 20000 in
theorem gX9_newSystem_X8_init_n244 : GoodIn wsX9_newSystem (wsX8_init) := ggX9_newSystem_X8_init
set_option maxRecDepth 20000 in
theorem ggX9_newSystem_X1_init : GoodIn wsX9_newSystem wsX1_init := goodIn_r _ [81, 82, 22, 23, 24, 83, 84, 85, 86, 122, 123, 124, 125] (by decide +kernel) (by decide +kernel)
set_option maxRecDepth 20000 in
theorem gX9_newSystem_X1_init_n245 : GoodIn wsX9_newSystem (wsX1_init) := ggX9_newSystem_X1_init
set_option maxRecDepth 20000 in
theorem ggX9_newSystem_X5_init : GoodIn wsX9_newSystem wsX5_init := goodIn_r _ [88, 89, 22, 23, 90, 91, 92, 93, 94, 102, 103, 104, 105, 106] (by decide +kernel) (by decide +kernel)
set_option maxRecDepth 20000 in
theorem gX9_newSystem_X5_init_n246 : GoodIn wsX9_newSystem (wsX5_init) := ggX9_newSystem_X5_init
theorem dX9_newSystem_0 : decode cX9_newSystem 0 = .ok (.new 60, 3) := by decide +kernel
theorem dX9_newSystem_3 : decode cX9_newSystem 3 = .ok (.dup, 1) := by decide +kernel
theorem dX9_newSystem_4 : decode cX9_newSystem 4 = .ok (.invokespecial 239, 3) := by decide +kernel
theorem dX9_newSystem_7 : decode cX9_newSystem 7 = .ok (.astore_n 0, 1) := by decide +kernel
theorem dX9_newSystem_8 : decode cX9_newSystem 8 = .ok (.new 11, 3) := by decide +kernel
theorem dX9_newSystem_11 : decode cX9_newSystem 11 = .ok (.dup, 1) := by decide +kernel
theorem dX9_newSystem_12 : decode cX9_newSystem 12 = .ok (.aload_n 0, 1) := by decide +kernel
theorem dX9_newSystem_13 : decode cX9_newSystem 13 = .ok (.new 141, 3) := by decide +kernel
theorem dX9_newSystem_16 : decode cX9_newSystem 16 = .ok (.dup, 1) := by decide +kernel
theorem dX9_newSystem_17 : decode cX9_newSystem 17 = .ok (.aload_n 0, 1) := by decide +kernel
theorem dX9_newSystem_18 : decode cX9_newSystem 18 = .ok (.invokespecial 240, 3) := by decide +kernel
theorem dX9_newSystem_21 : decode cX9_newSystem 21 = .ok (.new 121, 3) := by decide +kernel
theorem dX9_newSystem_24 : decode cX9_newSystem 24 = .ok (.dup, 1) := by decide +kernel
theorem dX9_newSystem_25 : decode cX9_newSystem 25 = .ok (.aload_n 0, 1) := by decide +kernel
theorem dX9_newSystem_26 : decode cX9_newSystem 26 = .ok (.invokespecial 243, 3) := by decide +kernel
theorem dX9_newSystem_29 : decode cX9_newSystem 29 = .ok (.new 160, 3) := by decide +kernel
theorem dX9_newSystem_32 : decode cX9_newSystem 32 = .ok (.dup, 1) := by decide +kernel
theorem dX9_newSystem_33 : decode cX9_newSystem 33 = .ok (.aload_n 0, 1) := by decide +kernel
theorem dX9_newSystem_34 : decode cX9_newSystem 34 = .ok (.invokespecial 244, 3) := by decide +kernel
theorem dX9_newSystem_37 : decode cX9_newSystem 37 = .ok (.new 231, 3) := by decide +kernel
theorem dX9_newSystem_40 : decode cX9_newSystem 40 = .ok (.dup, 1) := by decide +kernel
theorem dX9_newSystem_41 : decode cX9_newSystem 41 = .ok (.aload_n 0, 1) := by decide +kernel
theorem dX9_newSystem_42 : decode cX9_newSystem 42 = .ok (.invokespecial 245, 3) := by decide +kernel
theorem dX9_newSystem_45 : decode cX9_newSystem 45 = .ok (.invokespecial 246, 3) := by decide +kernel
theorem dX9_newSystem_48 : decode cX9_newSystem 48 = .ok (.areturn, 1) := by decide +kernel
theorem dX9_systemAt_0 : decode cX9_systemAt 0 = .ok (.iload_n 1, 1) := by decide +kernel
theorem dX9_systemAt_1 : decode cX9_systemAt 1 = .ok (.ifCond .lt 12, 3) := by decide +kernel
theorem dX9_systemAt_4 : decode cX9_systemAt 4 = .ok (.iload_n 1, 1) := by decide +kernel
theorem dX9_systemAt_5 : decode cX9_systemAt 5 = .ok (.aload_n 0, 1) := by decide +kernel
theorem dX9_systemAt_6 : decode cX9_systemAt 6 = .ok (.getfield 13, 3) := by decide +kernel
theorem dX9_systemAt_9 : decode cX9_systemAt 9 = .ok (.arraylength, 1) := by decide +kernel
theorem dX9_systemAt_10 : decode cX9_systemAt 10 = .ok (.if_icmp .lt 7, 3) := by decide +kernel
theorem dX9_systemAt_13 : decode cX9_systemAt 13 = .ok (.aconst_null, 1) := by decide +kernel
theorem dX9_systemAt_14 : decode cX9_systemAt 14 = .ok (.goto 9, 3) := by decide +kernel
theorem dX9_systemAt_17 : decode cX9_systemAt 17 = .ok (.aload_n 0, 1) := by decide +kernel
theorem dX9_systemAt_18 : decode cX9_systemAt 18 = .ok (.getfield 13, 3) := by decide +kernel
theorem dX9_systemAt_21 : decode cX9_systemAt 21 = .ok (.iload_n 1, 1) := by decide +kernel
theorem dX9_systemAt_22 : decode cX9_systemAt 22 = .ok (.aaload, 1) := by decide +kernel
theorem dX9_systemAt_23 : decode cX9_systemAt 23 = .ok (.areturn, 1) := by decide +kernel
theorem dX9_rowAt_0 : decode cX9_rowAt 0 = .ok (.iload_n 1, 1) := by decide +kernel
theorem dX9_rowAt_1 : decode cX9_rowAt 1 = .ok (.ifCond .lt 12, 3) := by decide +kernel
theorem dX9_rowAt_4 : decode cX9_rowAt 4 = .ok (.iload_n 1, 1) := by decide +kernel
theorem dX9_rowAt_5 : decode cX9_rowAt 5 = .ok (.aload_n 0, 1) := by decide +kernel
theorem dX9_rowAt_6 : decode cX9_rowAt 6 = .ok (.getfield 19, 3) := by decide +kernel
theorem dX9_rowAt_9 : decode cX9_rowAt 9 = .ok (.arraylength, 1) := by decide +kernel
theorem dX9_rowAt_10 : decode cX9_rowAt 10 = .ok (.if_icmp .lt 7, 3) := by decide +kernel
theorem dX9_rowAt_13 : decode cX9_rowAt 13 = .ok (.aconst_null, 1) := by decide +kernel
theorem dX9_rowAt_14 : decode cX9_rowAt 14 = .ok (.goto 9, 3) := by decide +kernel
theorem dX9_rowAt_17 : decode cX9_rowAt 17 = .ok (.aload_n 0, 1) := by decide +kernel
theorem dX9_rowAt_18 : decode cX9_rowAt 18 = .ok (.getfield 19, 3) := by decide +kernel
theorem dX9_rowAt_21 : decode cX9_rowAt 21 = .ok (.iload_n 1, 1) := by decide +kernel
theorem dX9_rowAt_22 : decode cX9_rowAt 22 = .ok (.aaload, 1) := by decide +kernel
theorem dX9_rowAt_23 : decode cX9_rowAt 23 = .ok (.areturn, 1) := by decide +kernel
theorem dX9_isWithin_0 : decode cX9_isWithin 0 = .ok (.iload_n 0, 1) := by decide +kernel
theorem dX9_isWithin_1 : decode cX9_isWithin 1 = .ok (.iload_n 1, 1) := by decide +kernel
theorem dX9_isWithin_2 : decode cX9_isWithin 2 = .ok (.ineg, 1) := by decide +kernel
theorem dX9_isWithin_3 : decode cX9_isWithin 3 = .ok (.if_icmp .lt 12, 3) := by decide +kernel
theorem dX9_isWithin_6 : decode cX9_isWithin 6 = .ok (.iload_n 0, 1) := by decide +kernel
theorem dX9_isWithin_7 : decode cX9_isWithin 7 = .ok (.iload_n 1, 1) := by decide +kernel
theorem dX9_isWithin_8 : decode cX9_isWithin 8 = .ok (.if_icmp .gt 7, 3) := by decide +kernel
theorem dX9_isWithin_11 : decode cX9_isWithin 11 = .ok (.iconst 1, 1) := by decide +kernel
theorem dX9_isWithin_12 : decode cX9_isWithin 12 = .ok (.goto 4, 3) := by decide +kernel
theorem dX9_isWithin_15 : decode cX9_isWithin 15 = .ok (.iconst 0, 1) := by decide +kernel
theorem dX9_isWithin_16 : decode cX9_isWithin 16 = .ok (.ireturn, 1) := by decide +kernel
set_option maxRecDepth 20000 in
theorem ggX9_isBase_X9_isWithin : GoodIn wsX9_isBase wsX9_isWithin := goodIn_r _ [8] (by decide +kernel) (by decide +kernel)
set_option maxRecDepth 20000 in
theorem gX9_isBase_X9_isWithin : GoodIn wsX9_isBase (va_wsS RX9 69 yX9_isWithin wsX9_isWithin) := goodIn_app (goodIn_of _ (by decide +kernel)) ggX9_isBase_X9_isWithin
set_option maxRecDepth 20000 in
theorem ggX9_isBase_X9_commonDivisor : GoodIn wsX9_isBase wsX9_commonDivisor := goodIn_r _ [11, 12, 13, 3, 14] (by decide +kernel) (by decide +kernel)
set_option maxRecDepth 20000 in
theorem gX9_isBase_X9_commonDivisor : GoodIn wsX9_isBase (va_wsS RX9 254 yX9_commonDivisor wsX9_commonDivisor) := goodIn_app (goodIn_of _ (by decide +kernel)) ggX9_isBase_X9_commonDivisor
theorem dX9_isBase_0 : decode cX9_isBase 0 = .ok (.iload_n 0, 1) := by decide +kernel
theorem dX9_isBase_1 : decode cX9_isBase 1 = .ok (.bipush 10, 2) := by decide +kernel
theorem dX9_isBase_3 : decode cX9_isBase 3 = .ok (.invokestatic 69, 3) := by decide +kernel
theorem dX9_isBase_6 : decode cX9_isBase 6 = .ok (.ifCond .eq 14, 3) := by decide +kernel
theorem dX9_isBase_9 : decode cX9_isBase 9 = .ok (.iload_n 1, 1) := by decide +kernel
theorem dX9_isBase_10 : decode cX9_isBase 10 = .ok (.iconst 1, 1) := by decide +kernel
theorem dX9_isBase_11 : decode cX9_isBase 11 = .ok (.if_icmp .lt 9, 3) := by decide +kernel
theorem dX9_isBase_14 : decode cX9_isBase 14 = .ok (.iload_n 1, 1) := by decide +kernel
theorem dX9_isBase_15 : decode cX9_isBase 15 = .ok (.bipush 9, 2) := by decide +kernel
theorem dX9_isBase_17 : decode cX9_isBase 17 = .ok (.if_icmp .le 5, 3) := by decide +kernel
theorem dX9_isBase_20 : decode cX9_isBase 20 = .ok (.iconst 0, 1) := by decide +kernel
theorem dX9_isBase_21 : decode cX9_isBase 21 = .ok (.ireturn, 1) := by decide +kernel
theorem dX9_isBase_22 : decode cX9_isBase 22 = .ok (.iload_n 0, 1) := by decide +kernel
theorem dX9_isBase_23 : decode cX9_isBase 23 = .ok (.invokestatic 249, 3) := by decide +kernel
theorem dX9_isBase_26 : decode cX9_isBase 26 = .ok (.istore_n 2, 1) := by decide +kernel
theorem dX9_isBase_27 : decode cX9_isBase 27 = .ok (.iload_n 2, 1) := by decide +kernel
theorem dX9_isBase_28 : decode cX9_isBase 28 = .ok (.iconst 2, 1) := by decide +kernel
theorem dX9_isBase_29 : decode cX9_isBase 29 = .ok (.if_icmp .lt 24, 3) := by decide +kernel
theorem dX9_isBase_32 : decode cX9_isBase 32 = .ok (.iload_n 1, 1) := by decide +kernel
theorem dX9_isBase_33 : decode cX9_isBase 33 = .ok (.iload_n 2, 1) := by decide +kernel
theorem dX9_isBase_34 : decode cX9_isBase 34 = .ok (.if_icmp .ge 19, 3) := by decide +kernel
theorem dX9_isBase_37 : decode cX9_isBase 37 = .ok (.iload_n 2, 1) := by decide +kernel
theorem dX9_isBase_38 : decode cX9_isBase 38 = .ok (.i2l, 1) := by decide +kernel
theorem dX9_isBase_39 : decode cX9_isBase 39 = .ok (.iload_n 1, 1) := by decide +kernel
theorem dX9_isBase_40 : decode cX9_isBase 40 = .ok (.i2l, 1) := by decide +kernel
theorem dX9_isBase_41 : decode cX9_isBase 41 = .ok (.invokestatic 254, 3) := by decide +kernel
theorem dX9_isBase_44 : decode cX9_isBase 44 = .ok (.lconst 1, 1) := by decide +kernel
theorem dX9_isBase_45 : decode cX9_isBase 45 = .ok (.lcmp, 1) := by decide +kernel
theorem dX9_isBase_46 : decode cX9_isBase 46 = .ok (.ifCond .ne 7, 3) := by decide +kernel
theorem dX9_isBase_49 : decode cX9_isBase 49 = .ok (.iconst 1, 1) := by decide +kernel
theorem dX9_isBase_50 : decode cX9_isBase 50 = .ok (.goto 4, 3) := by decide +kernel
theorem dX9_isBase_53 : decode cX9_isBase 53 = .ok (.iconst 0, 1) := by decide +kernel
theorem dX9_isBase_54 : decode cX9_isBase 54 = .ok (.ireturn, 1) := by decide +kernel
theorem dX9_commonDivisor_0 : decode cX9_commonDivisor 0 = .ok (.lload_n 0, 1) := by decide +kernel
theorem dX9_commonDivisor_1 : decode cX9_commonDivisor 1 = .ok (.invokestatic 258, 3) := by decide +kernel
theorem dX9_commonDivisor_4 : decode cX9_commonDivisor 4 = .ok (.lstore 4, 2) := by decide +kernel
theorem dX9_commonDivisor_6 : decode cX9_commonDivisor 6 = .ok (.lload_n 2, 1) := by decide +kernel
theorem dX9_commonDivisor_7 : decode cX9_commonDivisor 7 = .ok (.invokestatic 258, 3) := by decide +kernel
theorem dX9_commonDivisor_10 : decode cX9_commonDivisor 10 = .ok (.lstore 6, 2) := by decide +kernel
theorem dX9_commonDivisor_12 : decode cX9_commonDivisor 12 = .ok (.iconst 0, 1) := by decide +kernel
theorem dX9_commonDivisor_13 : decode cX9_commonDivisor 13 = .ok (.istore 8, 2) := by decide +kernel
theorem dX9_commonDivisor_15 : decode cX9_commonDivisor 15 = .ok (.iload 8, 2) := by decide +kernel
theorem dX9_commonDivisor_17 : decode cX9_commonDivisor 17 = .ok (.sipush 200, 3) := by decide +kernel
theorem dX9_commonDivisor_20 : decode cX9_commonDivisor 20 = .ok (.if_icmp .ge 31, 3) := by decide +kernel
theorem dX9_commonDivisor_23 : decode cX9_commonDivisor 23 = .ok (.lload 6, 2) := by decide +kernel
theorem dX9_commonDivisor_25 : decode cX9_commonDivisor 25 = .ok (.lconst 0, 1) := by decide +kernel
theorem dX9_commonDivisor_26 : decode cX9_commonDivisor 26 = .ok (.lcmp, 1) := by decide +kernel
theorem dX9_commonDivisor_27 : decode cX9_commonDivisor 27 = .ok (.ifCond .eq 24, 3) := by decide +kernel
theorem dX9_commonDivisor_30 : decode cX9_commonDivisor 30 = .ok (.lload 4, 2) := by decide +kernel
theorem dX9_commonDivisor_32 : decode cX9_commonDivisor 32 = .ok (.lload 6, 2) := by decide +kernel
theorem dX9_commonDivisor_34 : decode cX9_commonDivisor 34 = .ok (.lrem, 1) := by decide +kernel
theorem dX9_commonDivisor_35 : decode cX9_commonDivisor 35 = .ok (.lstore 9, 2) := by decide +kernel
theorem dX9_commonDivisor_37 : decode cX9_commonDivisor 37 = .ok (.lload 6, 2) := by decide +kernel
theorem dX9_commonDivisor_39 : decode cX9_commonDivisor 39 = .ok (.lstore 4, 2) := by decide +kernel
theorem dX9_commonDivisor_41 : decode cX9_commonDivisor 41 = .ok (.lload 9, 2) := by decide +kernel
theorem dX9_commonDivisor_43 : decode cX9_commonDivisor 43 = .ok (.lstore 6, 2) := by decide +kernel
theorem dX9_commonDivisor_45 : decode cX9_commonDivisor 45 = .ok (.iinc 8 1, 3) := by decide +kernel
theorem dX9_commonDivisor_48 : decode cX9_commonDivisor 48 = .ok (.goto (-33), 3) := by decide +kernel
theorem dX9_commonDivisor_51 : decode cX9_commonDivisor 51 = .ok (.lload 4, 2) := by decide +kernel
theorem dX9_commonDivisor_53 : decode cX9_commonDivisor 53 = .ok (.lreturn, 1) := by decide +kernel
set_option maxRecDepth 20000 in
theorem ggX9_tellOfExpansion_X9_systemAt : GoodIn wsX9_tellOfExpansion wsX9_systemAt := goodIn_r _ [12, 13, 105, 106, 107, 108, 109] (by decide +kernel) (by decide +kernel)
set_option maxRecDepth 20000 in
theorem gX9_tellOfExpansion_X9_systemAt : GoodIn wsX9_tellOfExpansion (wsV RX9 45 RX9 yX9_systemAt wsX9_systemAt) := goodIn_app (goodIn_of _ (by decide +kernel)) ggX9_tellOfExpansion_X9_systemAt
set_option maxRecDepth 20000 in
theorem ggX9_tellOfExpansion_X9_isWithin : GoodIn wsX9_tellOfExpansion wsX9_isWithin := goodIn_r _ [16] (by decide +kernel) (by decide +kernel)
set_option maxRecDepth 20000 in
theorem gX9_tellOfExpansion_X9_isWithin : GoodIn wsX9_tellOfExpansion (va_wsS RX9 69 yX9_isWithin wsX9_isWithin) := goodIn_app (goodIn_of _ (by decide +kernel)) ggX9_tellOfExpansion_X9_isWithin
set_option maxRecDepth 20000 in
theorem ggX9_tellOfExpansion_X9_commonDivisor : GoodIn wsX9_tellOfExpansion wsX9_commonDivisor := goodIn_r _ [19, 20, 21, 22, 23] (by decide +kernel) (by decide +kernel)
set_option maxRecDepth 20000 in
theorem gX9_tellOfExpansion_X9_commonDivisor : GoodIn wsX9_tellOfExpansion (va_wsS RX9 254 yX9_commonDivisor wsX9_commonDivisor) := goodIn_app (goodIn_of _ (by decide +kernel)) ggX9_tellOfExpansion_X9_commonDivisor
set_option maxRecDepth 20000 in
theorem ggX9_tellOfExpansion_X7_begin : GoodIn wsX9_tellOfExpansion wsX7_begin := goodIn_r _ [27, 28, 29, 30, 31, 32, 33, 34, 25, 35, 36, 37, 38, 39, 40, 41, 42, 43, 44, 45, 46, 47, 48, 49, 50, 51, 52, 53, 54, 55, 56, 57, 58, 59, 60, 61, 62, 63, 64, 65, 66, 67, 68, 69, 70, 71, 72, 73, 98, 99, 100, 101, 102, 103, 104, 91, 92, 93, 94, 95, 96, 97] (by decide +kernel) (by decide +kernel)
set_option maxRecDepth 20000 in
theorem gX9_tellOfExpansion_X7_begin_n140 : GoodIn wsX9_tellOfExpansion (wsX7_begin) := ggX9_tellOfExpansion_X7_begin
set_option maxRecDepth 20000 in
theorem ggX9_tellOfExpansion_X7_numeratorAt : GoodIn wsX9_tellOfExpansion wsX7_numeratorAt := goodIn_r _ [76, 72, 31, 28, 77, 78, 22, 79, 73, 64, 65, 66, 25, 67, 51, 52, 53, 54, 36, 30, 29, 55, 38, 56, 57, 41, 58, 59, 42, 43, 44, 45, 60, 61, 62, 63, 98, 99, 100, 101, 102, 103, 104, 91, 92, 93, 94, 95, 96, 97] (by decide +kernel) (by decide +kernel)
set_option maxRecDepth 20000 in
theorem gX9_tellOfExpansion_X7_numeratorAt_n262 : GoodIn wsX9_tellOfExpansion (wsX7_numeratorAt) := ggX9_tellOfExpansion_X7_numeratorAt
set_option maxRecDepth 20000 in
theorem ggX9_tellOfExpansion_X7_digitOf : GoodIn wsX9_tellOfExpansion wsX7_digitOf := goodIn_r _ [82, 36, 30, 55, 38, 56, 57, 41, 58, 59, 42, 43, 44, 45, 98, 99, 100, 101, 102, 103, 104, 91, 92, 93, 94, 95, 96, 97] (by decide +kernel) (by decide +kernel)
set_option maxRecDepth 20000 in
theorem gX9_tellOfExpansion_X7_digitOf_n265 : GoodIn wsX9_tellOfExpansion (wsX7_digitOf) := ggX9_tellOfExpansion_X7_digitOf
set_option maxRecDepth 20000 in
theorem ggX9_tellOfExpansion_X7_isFinite : GoodIn wsX9_tellOfExpansion wsX7_isFinite := goodIn_r _ [85, 73, 31, 98, 99, 100, 101, 102, 103, 104] (by decide +kernel) (by decide +kernel)
set_option maxRecDepth 20000 in
theorem gX9_tellOfExpansion_X7_isFinite_n274 : GoodIn wsX9_tellOfExpansion (wsX7_isFinite) := ggX9_tellOfExpansion_X7_isFinite
theorem dX9_tellOfExpansion_0 : decode cX9_tellOfExpansion 0 = .ok (.aload_n 0, 1) := by decide +kernel
theorem dX9_tellOfExpansion_1 : decode cX9_tellOfExpansion 1 = .ok (.iload_n 2, 1) := by decide +kernel
theorem dX9_tellOfExpansion_2 : decode cX9_tellOfExpansion 2 = .ok (.invokevirtual 45, 3) := by decide +kernel
theorem dX9_tellOfExpansion_5 : decode cX9_tellOfExpansion 5 = .ok (.astore 6, 2) := by decide +kernel
theorem dX9_tellOfExpansion_7 : decode cX9_tellOfExpansion 7 = .ok (.aload 6, 2) := by decide +kernel
theorem dX9_tellOfExpansion_9 : decode cX9_tellOfExpansion 9 = .ok (.ifnonnull 6, 3) := by decide +kernel
theorem dX9_tellOfExpansion_12 : decode cX9_tellOfExpansion 12 = .ok (.ldc 49, 2) := by decide +kernel
theorem dX9_tellOfExpansion_14 : decode cX9_tellOfExpansion 14 = .ok (.ireturn, 1) := by decide +kernel
theorem dX9_tellOfExpansion_15 : decode cX9_tellOfExpansion 15 = .ok (.iload_n 3, 1) := by decide +kernel
theorem dX9_tellOfExpansion_16 : decode cX9_tellOfExpansion 16 = .ok (.ldc 135, 2) := by decide +kernel
theorem dX9_tellOfExpansion_18 : decode cX9_tellOfExpansion 18 = .ok (.invokestatic 69, 3) := by decide +kernel
theorem dX9_tellOfExpansion_21 : decode cX9_tellOfExpansion 21 = .ok (.ifCond .eq 29, 3) := by decide +kernel
theorem dX9_tellOfExpansion_24 : decode cX9_tellOfExpansion 24 = .ok (.iload 4, 2) := by decide +kernel
theorem dX9_tellOfExpansion_26 : decode cX9_tellOfExpansion 26 = .ok (.iconst 1, 1) := by decide +kernel
theorem dX9_tellOfExpansion_27 : decode cX9_tellOfExpansion 27 = .ok (.if_icmp .lt 23, 3) := by decide +kernel
theorem dX9_tellOfExpansion_30 : decode cX9_tellOfExpansion 30 = .ok (.iload 4, 2) := by decide +kernel
theorem dX9_tellOfExpansion_32 : decode cX9_tellOfExpansion 32 = .ok (.bipush 60, 2) := by decide +kernel
theorem dX9_tellOfExpansion_34 : decode cX9_tellOfExpansion 34 = .ok (.if_icmp .gt 16, 3) := by decide +kernel
theorem dX9_tellOfExpansion_37 : decode cX9_tellOfExpansion 37 = .ok (.iload 5, 2) := by decide +kernel
theorem dX9_tellOfExpansion_39 : decode cX9_tellOfExpansion 39 = .ok (.ifCond .lt 11, 3) := by decide +kernel
theorem dX9_tellOfExpansion_42 : decode cX9_tellOfExpansion 42 = .ok (.iload 5, 2) := by decide +kernel
theorem dX9_tellOfExpansion_44 : decode cX9_tellOfExpansion 44 = .ok (.ldc_w 261, 3) := by decide +kernel
theorem dX9_tellOfExpansion_47 : decode cX9_tellOfExpansion 47 = .ok (.if_icmp .le 6, 3) := by decide +kernel
theorem dX9_tellOfExpansion_50 : decode cX9_tellOfExpansion 50 = .ok (.ldc 54, 2) := by decide +kernel
theorem dX9_tellOfExpansion_52 : decode cX9_tellOfExpansion 52 = .ok (.ireturn, 1) := by decide +kernel
theorem dX9_tellOfExpansion_53 : decode cX9_tellOfExpansion 53 = .ok (.aload 6, 2) := by decide +kernel
theorem dX9_tellOfExpansion_55 : decode cX9_tellOfExpansion 55 = .ok (.getfield 55, 3) := by decide +kernel
theorem dX9_tellOfExpansion_58 : decode cX9_tellOfExpansion 58 = .ok (.getfield 103, 3) := by decide +kernel
theorem dX9_tellOfExpansion_61 : decode cX9_tellOfExpansion 61 = .ok (.ifCond .ne 6, 3) := by decide +kernel
theorem dX9_tellOfExpansion_64 : decode cX9_tellOfExpansion 64 = .ok (.ldc 115, 2) := by decide +kernel
theorem dX9_tellOfExpansion_66 : decode cX9_tellOfExpansion 66 = .ok (.ireturn, 1) := by decide +kernel
theorem dX9_tellOfExpansion_67 : decode cX9_tellOfExpansion 67 = .ok (.iload 4, 2) := by decide +kernel
theorem dX9_tellOfExpansion_69 : decode cX9_tellOfExpansion 69 = .ok (.i2l, 1) := by decide +kernel
theorem dX9_tellOfExpansion_70 : decode cX9_tellOfExpansion 70 = .ok (.aload 6, 2) := by decide +kernel
theorem dX9_tellOfExpansion_72 : decode cX9_tellOfExpansion 72 = .ok (.getfield 55, 3) := by decide +kernel
theorem dX9_tellOfExpansion_75 : decode cX9_tellOfExpansion 75 = .ok (.getfield 65, 3) := by decide +kernel
theorem dX9_tellOfExpansion_78 : decode cX9_tellOfExpansion 78 = .ok (.i2l, 1) := by decide +kernel
theorem dX9_tellOfExpansion_79 : decode cX9_tellOfExpansion 79 = .ok (.invokestatic 254, 3) := by decide +kernel
theorem dX9_tellOfExpansion_82 : decode cX9_tellOfExpansion 82 = .ok (.lconst 1, 1) := by decide +kernel
theorem dX9_tellOfExpansion_83 : decode cX9_tellOfExpansion 83 = .ok (.lcmp, 1) := by decide +kernel
theorem dX9_tellOfExpansion_84 : decode cX9_tellOfExpansion 84 = .ok (.ifCond .eq 6, 3) := by decide +kernel
theorem dX9_tellOfExpansion_87 : decode cX9_tellOfExpansion 87 = .ok (.ldc 76, 2) := by decide +kernel
theorem dX9_tellOfExpansion_89 : decode cX9_tellOfExpansion 89 = .ok (.ireturn, 1) := by decide +kernel
theorem dX9_tellOfExpansion_90 : decode cX9_tellOfExpansion 90 = .ok (.aload 6, 2) := by decide +kernel
theorem dX9_tellOfExpansion_92 : decode cX9_tellOfExpansion 92 = .ok (.getfield 136, 3) := by decide +kernel
theorem dX9_tellOfExpansion_95 : decode cX9_tellOfExpansion 95 = .ok (.iload_n 3, 1) := by decide +kernel
theorem dX9_tellOfExpansion_96 : decode cX9_tellOfExpansion 96 = .ok (.iload 4, 2) := by decide +kernel
theorem dX9_tellOfExpansion_98 : decode cX9_tellOfExpansion 98 = .ok (.invokevirtual 140, 3) := by decide +kernel
theorem dX9_tellOfExpansion_101 : decode cX9_tellOfExpansion 101 = .ok (.iload_n 1, 1) := by decide +kernel
theorem dX9_tellOfExpansion_102 : decode cX9_tellOfExpansion 102 = .ok (.tableswitch 78 0 3 #[30, 49, 60, 69], 30) := by decide +kernel
theorem dX9_tellOfExpansion_132 : decode cX9_tellOfExpansion 132 = .ok (.aload 6, 2) := by decide +kernel
theorem dX9_tellOfExpansion_134 : decode cX9_tellOfExpansion 134 = .ok (.getfield 136, 3) := by decide +kernel
theorem dX9_tellOfExpansion_137 : decode cX9_tellOfExpansion 137 = .ok (.aload 6, 2) := by decide +kernel
theorem dX9_tellOfExpansion_139 : decode cX9_tellOfExpansion 139 = .ok (.getfield 136, 3) := by decide +kernel
theorem dX9_tellOfExpansion_142 : decode cX9_tellOfExpansion 142 = .ok (.iload 5, 2) := by decide +kernel
theorem dX9_tellOfExpansion_144 : decode cX9_tellOfExpansion 144 = .ok (.invokevirtual 262, 3) := by decide +kernel
theorem dX9_tellOfExpansion_147 : decode cX9_tellOfExpansion 147 = .ok (.invokevirtual 265, 3) := by decide +kernel
theorem dX9_tellOfExpansion_150 : decode cX9_tellOfExpansion 150 = .ok (.ireturn, 1) := by decide +kernel
theorem dX9_tellOfExpansion_151 : decode cX9_tellOfExpansion 151 = .ok (.aload 6, 2) := by decide +kernel
theorem dX9_tellOfExpansion_153 : decode cX9_tellOfExpansion 153 = .ok (.getfield 136, 3) := by decide +kernel
theorem dX9_tellOfExpansion_156 : decode cX9_tellOfExpansion 156 = .ok (.iload 5, 2) := by decide +kernel
theorem dX9_tellOfExpansion_158 : decode cX9_tellOfExpansion 158 = .ok (.invokevirtual 262, 3) := by decide +kernel
theorem dX9_tellOfExpansion_161 : decode cX9_tellOfExpansion 161 = .ok (.ireturn, 1) := by decide +kernel
theorem dX9_tellOfExpansion_162 : decode cX9_tellOfExpansion 162 = .ok (.aload 6, 2) := by decide +kernel
theorem dX9_tellOfExpansion_164 : decode cX9_tellOfExpansion 164 = .ok (.getfield 136, 3) := by decide +kernel
theorem dX9_tellOfExpansion_167 : decode cX9_tellOfExpansion 167 = .ok (.getfield 268, 3) := by decide +kernel
theorem dX9_tellOfExpansion_170 : decode cX9_tellOfExpansion 170 = .ok (.ireturn, 1) := by decide +kernel
theorem dX9_tellOfExpansion_171 : decode cX9_tellOfExpansion 171 = .ok (.aload 6, 2) := by decide +kernel
theorem dX9_tellOfExpansion_173 : decode cX9_tellOfExpansion 173 = .ok (.getfield 136, 3) := by decide +kernel
theorem dX9_tellOfExpansion_176 : decode cX9_tellOfExpansion 176 = .ok (.getfield 271, 3) := by decide +kernel
theorem dX9_tellOfExpansion_179 : decode cX9_tellOfExpansion 179 = .ok (.ireturn, 1) := by decide +kernel
theorem dX9_tellOfExpansion_180 : decode cX9_tellOfExpansion 180 = .ok (.aload 6, 2) := by decide +kernel
theorem dX9_tellOfExpansion_182 : decode cX9_tellOfExpansion 182 = .ok (.getfield 136, 3) := by decide +kernel
theorem dX9_tellOfExpansion_185 : decode cX9_tellOfExpansion 185 = .ok (.invokevirtual 274, 3) := by decide +kernel
theorem dX9_tellOfExpansion_188 : decode cX9_tellOfExpansion 188 = .ok (.ifCond .eq 14, 3) := by decide +kernel
theorem dX9_tellOfExpansion_191 : decode cX9_tellOfExpansion 191 = .ok (.aload 6, 2) := by decide +kernel
theorem dX9_tellOfExpansion_193 : decode cX9_tellOfExpansion 193 = .ok (.getfield 136, 3) := by decide +kernel
theorem dX9_tellOfExpansion_196 : decode cX9_tellOfExpansion 196 = .ok (.getfield 268, 3) := by decide +kernel
theorem dX9_tellOfExpansion_199 : decode cX9_tellOfExpansion 199 = .ok (.goto 5, 3) := by decide +kernel
theorem dX9_tellOfExpansion_202 : decode cX9_tellOfExpansion 202 = .ok (.ldc 125, 2) := by decide +kernel
theorem dX9_tellOfExpansion_204 : decode cX9_tellOfExpansion 204 = .ok (.ireturn, 1) := by decide +kernel
set_option maxRecDepth 20000 in
theorem ggX9_expandInto_X7_begin : GoodIn wsX9_expandInto wsX7_begin := goodIn_r _ [6, 7, 8, 9, 10, 11, 12, 13, 4, 14, 15, 16, 17, 18, 19, 20, 21, 22, 23, 24, 25, 26, 27, 28, 29, 30, 31, 32, 33, 34, 35, 36, 37, 38, 39, 40, 41, 42, 43, 44, 45, 46, 47, 48, 49, 50, 51, 52, 70, 71, 72, 73, 74, 75, 76, 79, 80, 81, 82, 83, 84, 85] (by decide +kernel) (by decide +kernel)
set_option maxRecDepth 20000 in
theorem gX9_expandInto_X7_begin_n140 : GoodIn wsX9_expandInto (wsX7_begin) := ggX9_expandInto_X7_begin
set_option maxRecDepth 20000 in
theorem ggX9_expandInto_X7_isFinite : GoodIn wsX9_expandInto wsX7_isFinite := goodIn_r _ [55, 52, 10, 70, 71, 72, 73, 74, 75, 76] (by decide +kernel) (by decide +kernel)
set_option maxRecDepth 20000 in
theorem gX9_expandInto_X7_isFinite_n274 : GoodIn wsX9_expandInto (wsX7_isFinite) := ggX9_expandInto_X7_isFinite
set_option maxRecDepth 20000 in
theorem ggX9_expandInto_X7_digitOf : GoodIn wsX9_expandInto wsX7_digitOf := goodIn_r _ [58, 15, 9, 34, 17, 35, 36, 20, 37, 38, 21, 22, 23, 24, 70, 71, 72, 73, 74, 75, 76, 79, 80, 81, 82, 83, 84, 85] (by decide +kernel) (by decide +kernel)
set_option maxRecDepth 20000 in
theorem gX9_expandInto_X7_digitOf_n265 : GoodIn wsX9_expandInto (wsX7_digitOf) := ggX9_expandInto_X7_digitOf
set_option maxRecDepth 20000 in
theorem ggX9_expandInto_X6_append : GoodIn wsX9_expandInto wsX6_append := goodIn_r _ [62, 63, 64, 77, 78] (by decide +kernel) (by decide +kernel)
set_option maxRecDepth 20000 in
theorem gX9_expandInto_X6_append_n181 : GoodIn wsX9_expandInto (wsX6_append) := ggX9_expandInto_X6_append
set_option maxRecDepth 20000 in
theorem ggX9_expandInto_X7_after : GoodIn wsX9_expandInto wsX7_after := goodIn_r _ [33, 15, 9, 8, 34, 17, 35, 36, 20, 37, 38, 21, 22, 23, 24, 39, 40, 41, 42, 70, 71, 72, 73, 74, 75, 76, 79, 80, 81, 82, 83, 84, 85] (by decide +kernel) (by decide +kernel)
set_option maxRecDepth 20000 in
theorem gX9_expandInto_X7_after_n277 : GoodIn wsX9_expandInto (wsX7_after) := ggX9_expandInto_X7_after
theorem dX9_expandInto_0 : decode cX9_expandInto 0 = .ok (.aload_n 0, 1) := by decide +kernel
theorem dX9_expandInto_1 : decode cX9_expandInto 1 = .ok (.getfield 136, 3) := by decide +kernel
theorem dX9_expandInto_4 : decode cX9_expandInto 4 = .ok (.astore_n 3, 1) := by decide +kernel
theorem dX9_expandInto_5 : decode cX9_expandInto 5 = .ok (.aload_n 3, 1) := by decide +kernel
theorem dX9_expandInto_6 : decode cX9_expandInto 6 = .ok (.iload_n 1, 1) := by decide +kernel
theorem dX9_expandInto_7 : decode cX9_expandInto 7 = .ok (.iconst 1, 1) := by decide +kernel
theorem dX9_expandInto_8 : decode cX9_expandInto 8 = .ok (.invokevirtual 140, 3) := by decide +kernel
theorem dX9_expandInto_11 : decode cX9_expandInto 11 = .ok (.aload_n 3, 1) := by decide +kernel
theorem dX9_expandInto_12 : decode cX9_expandInto 12 = .ok (.invokevirtual 274, 3) := by decide +kernel
theorem dX9_expandInto_15 : decode cX9_expandInto 15 = .ok (.ifCond .ne 6, 3) := by decide +kernel
theorem dX9_expandInto_18 : decode cX9_expandInto 18 = .ok (.ldc 76, 2) := by decide +kernel
theorem dX9_expandInto_20 : decode cX9_expandInto 20 = .ok (.ireturn, 1) := by decide +kernel
theorem dX9_expandInto_21 : decode cX9_expandInto 21 = .ok (.aload_n 3, 1) := by decide +kernel
theorem dX9_expandInto_22 : decode cX9_expandInto 22 = .ok (.getfield 268, 3) := by decide +kernel
theorem dX9_expandInto_25 : decode cX9_expandInto 25 = .ok (.bipush 12, 2) := by decide +kernel
theorem dX9_expandInto_27 : decode cX9_expandInto 27 = .ok (.if_icmp .le 6, 3) := by decide +kernel
theorem dX9_expandInto_30 : decode cX9_expandInto 30 = .ok (.ldc 80, 2) := by decide +kernel
theorem dX9_expandInto_32 : decode cX9_expandInto 32 = .ok (.ireturn, 1) := by decide +kernel
theorem dX9_expandInto_33 : decode cX9_expandInto 33 = .ok (.aload_n 3, 1) := by decide +kernel
theorem dX9_expandInto_34 : decode cX9_expandInto 34 = .ok (.getfield 268, 3) := by decide +kernel
theorem dX9_expandInto_37 : decode cX9_expandInto 37 = .ok (.istore 4, 2) := by decide +kernel
theorem dX9_expandInto_39 : decode cX9_expandInto 39 = .ok (.iload_n 1, 1) := by decide +kernel
theorem dX9_expandInto_40 : decode cX9_expandInto 40 = .ok (.istore 5, 2) := by decide +kernel
theorem dX9_expandInto_42 : decode cX9_expandInto 42 = .ok (.aload_n 2, 1) := by decide +kernel
theorem dX9_expandInto_43 : decode cX9_expandInto 43 = .ok (.iconst 0, 1) := by decide +kernel
theorem dX9_expandInto_44 : decode cX9_expandInto 44 = .ok (.putfield 180, 3) := by decide +kernel
theorem dX9_expandInto_47 : decode cX9_expandInto 47 = .ok (.iconst 0, 1) := by decide +kernel
theorem dX9_expandInto_48 : decode cX9_expandInto 48 = .ok (.istore 6, 2) := by decide +kernel
theorem dX9_expandInto_50 : decode cX9_expandInto 50 = .ok (.iload 6, 2) := by decide +kernel
theorem dX9_expandInto_52 : decode cX9_expandInto 52 = .ok (.iload 4, 2) := by decide +kernel
theorem dX9_expandInto_54 : decode cX9_expandInto 54 = .ok (.if_icmp .ge 27, 3) := by decide +kernel
theorem dX9_expandInto_57 : decode cX9_expandInto 57 = .ok (.aload_n 2, 1) := by decide +kernel
theorem dX9_expandInto_58 : decode cX9_expandInto 58 = .ok (.aload_n 3, 1) := by decide +kernel
theorem dX9_expandInto_59 : decode cX9_expandInto 59 = .ok (.iload 5, 2) := by decide +kernel
theorem dX9_expandInto_61 : decode cX9_expandInto 61 = .ok (.invokevirtual 265, 3) := by decide +kernel
theorem dX9_expandInto_64 : decode cX9_expandInto 64 = .ok (.invokevirtual 181, 3) := by decide +kernel
theorem dX9_expandInto_67 : decode cX9_expandInto 67 = .ok (.aload_n 3, 1) := by decide +kernel
theorem dX9_expandInto_68 : decode cX9_expandInto 68 = .ok (.iload 5, 2) := by decide +kernel
theorem dX9_expandInto_70 : decode cX9_expandInto 70 = .ok (.invokevirtual 277, 3) := by decide +kernel
theorem dX9_expandInto_73 : decode cX9_expandInto 73 = .ok (.istore 5, 2) := by decide +kernel
theorem dX9_expandInto_75 : decode cX9_expandInto 75 = .ok (.iinc 6 1, 3) := by decide +kernel
theorem dX9_expandInto_78 : decode cX9_expandInto 78 = .ok (.goto (-28), 3) := by decide +kernel
theorem dX9_expandInto_81 : decode cX9_expandInto 81 = .ok (.aload_n 2, 1) := by decide +kernel
theorem dX9_expandInto_82 : decode cX9_expandInto 82 = .ok (.getfield 180, 3) := by decide +kernel
theorem dX9_expandInto_85 : decode cX9_expandInto 85 = .ok (.ireturn, 1) := by decide +kernel
set_option maxRecDepth 20000 in
theorem ggX9_compute_X2_carryThrough : GoodIn wsX9_compute wsX2_carryThrough := goodIn_r _ [6, 7, 8, 9, 10, 11, 4, 12, 13, 14, 15, 16, 17, 18, 19, 20, 21, 22, 23, 24, 25, 26, 27, 28, 29, 30, 31, 32, 33, 34, 35, 36, 37, 38, 39, 40, 41, 42, 43, 44, 45, 46, 47, 48, 49, 50, 64, 65, 66, 67, 68, 69, 70, 71, 72, 73, 74, 75] (by decide +kernel) (by decide +kernel)
set_option maxRecDepth 20000 in
theorem gX9_compute_X2_carryThrough_n280 : GoodIn wsX9_compute (wsX2_carryThrough) := ggX9_compute_X2_carryThrough
set_option maxRecDepth 20000 in
theorem ggX9_compute_X6_become : GoodIn wsX9_compute wsX6_become := goodIn_r _ [53, 34, 33, 47, 48, 49, 30, 50, 67, 68] (by decide +kernel) (by decide +kernel)
set_option maxRecDepth 20000 in
theorem gX9_compute_X6_become_n288 : GoodIn wsX9_compute (wsX6_become) := ggX9_compute_X6_become
theorem dX9_compute_0 : decode cX9_compute 0 = .ok (.aload_n 0, 1) := by decide +kernel
theorem dX9_compute_1 : decode cX9_compute 1 = .ok (.getfield 26, 3) := by decide +kernel
theorem dX9_compute_4 : decode cX9_compute 4 = .ok (.aload_n 1, 1) := by decide +kernel
theorem dX9_compute_5 : decode cX9_compute 5 = .ok (.getfield 55, 3) := by decide +kernel
theorem dX9_compute_8 : decode cX9_compute 8 = .ok (.invokevirtual 280, 3) := by decide +kernel
theorem dX9_compute_11 : decode cX9_compute 11 = .ok (.ifCond .ne 6, 3) := by decide +kernel
theorem dX9_compute_14 : decode cX9_compute 14 = .ok (.ldc 80, 2) := by decide +kernel
theorem dX9_compute_16 : decode cX9_compute 16 = .ok (.ireturn, 1) := by decide +kernel
theorem dX9_compute_17 : decode cX9_compute 17 = .ok (.aload_n 2, 1) := by decide +kernel
theorem dX9_compute_18 : decode cX9_compute 18 = .ok (.aload_n 0, 1) := by decide +kernel
theorem dX9_compute_19 : decode cX9_compute 19 = .ok (.getfield 26, 3) := by decide +kernel
theorem dX9_compute_22 : decode cX9_compute 22 = .ok (.getfield 284, 3) := by decide +kernel
theorem dX9_compute_25 : decode cX9_compute 25 = .ok (.invokevirtual 288, 3) := by decide +kernel
theorem dX9_compute_28 : decode cX9_compute 28 = .ok (.aload_n 2, 1) := by decide +kernel
theorem dX9_compute_29 : decode cX9_compute 29 = .ok (.getfield 180, 3) := by decide +kernel
theorem dX9_compute_32 : decode cX9_compute 32 = .ok (.ireturn, 1) := by decide +kernel
