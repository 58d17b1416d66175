theorem dX7_init_0 : decode cX7_init 0 = .ok (.aload_n 0, 1) := by decide +kernel
theorem dX7_init_1 : decode cX7_init 1 = .ok (.invokespecial 3, 3) := by decide +kernel
theorem dX7_init_4 : decode cX7_init 4 = .ok (.aload_n 0, 1) := by decide +kernel
theorem dX7_init_5 : decode cX7_init 5 = .ok (.iconst 1, 1) := by decide +kernel
theorem dX7_init_6 : decode cX7_init 6 = .ok (.putfield 9, 3) := by decide +kernel
theorem dX7_init_9 : decode cX7_init 9 = .ok (.aload_n 0, 1) := by decide +kernel
theorem dX7_init_10 : decode cX7_init 10 = .ok (.iconst 1, 1) := by decide +kernel
theorem dX7_init_11 : decode cX7_init 11 = .ok (.putfield 15, 3) := by decide +kernel
theorem dX7_init_14 : decode cX7_init 14 = .ok (.aload_n 0, 1) := by decide +kernel
theorem dX7_init_15 : decode cX7_init 15 = .ok (.iconst 1, 1) := by decide +kernel
theorem dX7_init_16 : decode cX7_init 16 = .ok (.putfield 18, 3) := by decide +kernel
theorem dX7_init_19 : decode cX7_init 19 = .ok (.aload_n 0, 1) := by decide +kernel
theorem dX7_init_20 : decode cX7_init 20 = .ok (.aload_n 1, 1) := by decide +kernel
theorem dX7_init_21 : decode cX7_init 21 = .ok (.putfield 21, 3) := by decide +kernel
theorem dX7_init_24 : decode cX7_init 24 = .ok (.return_, 1) := by decide +kernel
set_option maxRecDepth 20000 in
theorem ggX7_begin_X7_inverseOf : GoodIn wsX7_begin wsX7_inverseOf := goodIn_r _ [9, 10, 11, 12, 13, 14, 15, 16, 17, 18, 19, 48, 49, 50, 51, 52, 53, 54, 55, 56, 57, 58, 59, 60, 61] (by decide +kernel) (by decide +kernel)
set_option maxRecDepth 20000 in
theorem gX7_begin_X7_inverseOf : GoodIn wsX7_begin (wsV RX7 28 RX7 yX7_inverseOf wsX7_inverseOf) := goodIn_app (goodIn_of _ (by decide +kernel)) ggX7_begin_X7_inverseOf
set_option maxRecDepth 20000 in
theorem ggX7_begin_X7_distanceAround : GoodIn wsX7_begin wsX7_distanceAround := goodIn_r _ [23, 1, 24, 25, 26, 27, 8, 28, 10, 3, 2, 29, 12, 30, 31, 15, 32, 33, 16, 17, 18, 19, 34, 35, 36, 37, 48, 49, 50, 51, 52, 53, 54, 55, 56, 57, 58, 59, 60, 61] (by decide +kernel) (by decide +kernel)
set_option maxRecDepth 20000 in
theorem gX7_begin_X7_distanceAround : GoodIn wsX7_begin (wsV RX7 32 RX7 yX7_distanceAround wsX7_distanceAround) := goodIn_app (goodIn_of _ (by decide +kernel)) ggX7_begin_X7_distanceAround
set_option maxRecDepth 20000 in
theorem ggX7_begin_X7_ahead : GoodIn wsX7_begin wsX7_ahead := goodIn_r _ [41, 25, 26, 27, 8, 28, 10, 3, 2, 29, 12, 30, 31, 15, 32, 33, 16, 17, 18, 19, 34, 35, 36, 37, 48, 49, 50, 51, 52, 53, 54, 55, 56, 57, 58, 59, 60, 61] (by decide +kernel) (by decide +kernel)
set_option maxRecDepth 20000 in
theorem gX7_begin_X7_ahead : GoodIn wsX7_begin (wsV RX7 36 RX7 yX7_ahead wsX7_ahead) := goodIn_app (goodIn_of _ (by decide +kernel)) ggX7_begin_X7_ahead
set_option maxRecDepth 20000 in
theorem ggX7_begin_X7_findEntrance : GoodIn wsX7_begin wsX7_findEntrance := goodIn_r _ [45, 1, 46, 24, 47, 25, 26, 27, 8, 28, 10, 3, 2, 29, 12, 30, 31, 15, 32, 33, 16, 17, 18, 19, 34, 35, 36, 37, 48, 49, 50, 51, 52, 53, 54, 55, 56, 57, 58, 59, 60, 61] (by decide +kernel) (by decide +kernel)
set_option maxRecDepth 20000 in
theorem gX7_begin_X7_findEntrance : GoodIn wsX7_begin (wsV RX7 40 RX7 yX7_findEntrance wsX7_findEntrance) := goodIn_app (goodIn_of _ (by decide +kernel)) ggX7_begin_X7_findEntrance
theorem dX7_begin_0 : decode cX7_begin 0 = .ok (.aload_n 0, 1) := by decide +kernel
theorem dX7_begin_1 : decode cX7_begin 1 = .ok (.iload_n 1, 1) := by decide +kernel
theorem dX7_begin_2 : decode cX7_begin 2 = .ok (.putfield 25, 3) := by decide +kernel
theorem dX7_begin_5 : decode cX7_begin 5 = .ok (.aload_n 0, 1) := by decide +kernel
theorem dX7_begin_6 : decode cX7_begin 6 = .ok (.iload_n 2, 1) := by decide +kernel
theorem dX7_begin_7 : decode cX7_begin 7 = .ok (.putfield 9, 3) := by decide +kernel
theorem dX7_begin_10 : decode cX7_begin 10 = .ok (.aload_n 0, 1) := by decide +kernel
theorem dX7_begin_11 : decode cX7_begin 11 = .ok (.aload_n 0, 1) := by decide +kernel
theorem dX7_begin_12 : decode cX7_begin 12 = .ok (.iload_n 2, 1) := by decide +kernel
theorem dX7_begin_13 : decode cX7_begin 13 = .ok (.invokevirtual 28, 3) := by decide +kernel
theorem dX7_begin_16 : decode cX7_begin 16 = .ok (.putfield 15, 3) := by decide +kernel
theorem dX7_begin_19 : decode cX7_begin 19 = .ok (.aload_n 0, 1) := by decide +kernel
theorem dX7_begin_20 : decode cX7_begin 20 = .ok (.aload_n 0, 1) := by decide +kernel
theorem dX7_begin_21 : decode cX7_begin 21 = .ok (.invokevirtual 32, 3) := by decide +kernel
theorem dX7_begin_24 : decode cX7_begin 24 = .ok (.putfield 18, 3) := by decide +kernel
theorem dX7_begin_27 : decode cX7_begin 27 = .ok (.aload_n 0, 1) := by decide +kernel
theorem dX7_begin_28 : decode cX7_begin 28 = .ok (.aload_n 0, 1) := by decide +kernel
theorem dX7_begin_29 : decode cX7_begin 29 = .ok (.iload_n 1, 1) := by decide +kernel
theorem dX7_begin_30 : decode cX7_begin 30 = .ok (.aload_n 0, 1) := by decide +kernel
theorem dX7_begin_31 : decode cX7_begin 31 = .ok (.getfield 18, 3) := by decide +kernel
theorem dX7_begin_34 : decode cX7_begin 34 = .ok (.invokevirtual 36, 3) := by decide +kernel
theorem dX7_begin_37 : decode cX7_begin 37 = .ok (.invokevirtual 40, 3) := by decide +kernel
theorem dX7_begin_40 : decode cX7_begin 40 = .ok (.return_, 1) := by decide +kernel
set_option maxRecDepth 20000 in
theorem ggX7_inverseOf_X0_residueOf : GoodIn wsX7_inverseOf wsX0_residueOf := goodIn_r _ [5, 6, 7, 8, 9, 10, 18, 19, 20, 21, 22, 23, 24] (by decide +kernel) (by decide +kernel)
set_option maxRecDepth 20000 in
theorem gX7_inverseOf_X0_residueOf_n49 : GoodIn wsX7_inverseOf (wsX0_residueOf) := ggX7_inverseOf_X0_residueOf
theorem dX7_inverseOf_0 : decode cX7_inverseOf 0 = .ok (.iconst 1, 1) := by decide +kernel
theorem dX7_inverseOf_1 : decode cX7_inverseOf 1 = .ok (.istore_n 2, 1) := by decide +kernel
theorem dX7_inverseOf_2 : decode cX7_inverseOf 2 = .ok (.iload_n 2, 1) := by decide +kernel
theorem dX7_inverseOf_3 : decode cX7_inverseOf 3 = .ok (.aload_n 0, 1) := by decide +kernel
theorem dX7_inverseOf_4 : decode cX7_inverseOf 4 = .ok (.getfield 21, 3) := by decide +kernel
theorem dX7_inverseOf_7 : decode cX7_inverseOf 7 = .ok (.getfield 44, 3) := by decide +kernel
theorem dX7_inverseOf_10 : decode cX7_inverseOf 10 = .ok (.if_icmp .ge 25, 3) := by decide +kernel
theorem dX7_inverseOf_13 : decode cX7_inverseOf 13 = .ok (.aload_n 0, 1) := by decide +kernel
theorem dX7_inverseOf_14 : decode cX7_inverseOf 14 = .ok (.getfield 21, 3) := by decide +kernel
theorem dX7_inverseOf_17 : decode cX7_inverseOf 17 = .ok (.iload_n 2, 1) := by decide +kernel
theorem dX7_inverseOf_18 : decode cX7_inverseOf 18 = .ok (.iload_n 1, 1) := by decide +kernel
theorem dX7_inverseOf_19 : decode cX7_inverseOf 19 = .ok (.imul, 1) := by decide +kernel
theorem dX7_inverseOf_20 : decode cX7_inverseOf 20 = .ok (.invokevirtual 49, 3) := by decide +kernel
theorem dX7_inverseOf_23 : decode cX7_inverseOf 23 = .ok (.iconst 1, 1) := by decide +kernel
theorem dX7_inverseOf_24 : decode cX7_inverseOf 24 = .ok (.if_icmp .ne 5, 3) := by decide +kernel
theorem dX7_inverseOf_27 : decode cX7_inverseOf 27 = .ok (.iload_n 2, 1) := by decide +kernel
theorem dX7_inverseOf_28 : decode cX7_inverseOf 28 = .ok (.ireturn, 1) := by decide +kernel
theorem dX7_inverseOf_29 : decode cX7_inverseOf 29 = .ok (.iinc 2 1, 3) := by decide +kernel
theorem dX7_inverseOf_32 : decode cX7_inverseOf 32 = .ok (.goto (-30), 3) := by decide +kernel
theorem dX7_inverseOf_35 : decode cX7_inverseOf 35 = .ok (.iconst 1, 1) := by decide +kernel
theorem dX7_inverseOf_36 : decode cX7_inverseOf 36 = .ok (.ireturn, 1) := by decide +kernel
set_option maxRecDepth 20000 in
theorem ggX7_digitOf_X0_digitFor : GoodIn wsX7_digitOf wsX0_digitFor := goodIn_r _ [6, 7, 8, 9, 10, 11, 12, 13, 21, 22, 23, 24, 25, 26, 27] (by decide +kernel) (by decide +kernel)
set_option maxRecDepth 20000 in
theorem gX7_digitOf_X0_digitFor_n55 : GoodIn wsX7_digitOf (wsX0_digitFor) := ggX7_digitOf_X0_digitFor
theorem dX7_digitOf_0 : decode cX7_digitOf 0 = .ok (.aload_n 0, 1) := by decide +kernel
theorem dX7_digitOf_1 : decode cX7_digitOf 1 = .ok (.getfield 21, 3) := by decide +kernel
theorem dX7_digitOf_4 : decode cX7_digitOf 4 = .ok (.aload_n 0, 1) := by decide +kernel
theorem dX7_digitOf_5 : decode cX7_digitOf 5 = .ok (.getfield 21, 3) := by decide +kernel
theorem dX7_digitOf_8 : decode cX7_digitOf 8 = .ok (.getfield 52, 3) := by decide +kernel
theorem dX7_digitOf_11 : decode cX7_digitOf 11 = .ok (.iload_n 1, 1) := by decide +kernel
theorem dX7_digitOf_12 : decode cX7_digitOf 12 = .ok (.imul, 1) := by decide +kernel
theorem dX7_digitOf_13 : decode cX7_digitOf 13 = .ok (.aload_n 0, 1) := by decide +kernel
theorem dX7_digitOf_14 : decode cX7_digitOf 14 = .ok (.getfield 15, 3) := by decide +kernel
theorem dX7_digitOf_17 : decode cX7_digitOf 17 = .ok (.imul, 1) := by decide +kernel
theorem dX7_digitOf_18 : decode cX7_digitOf 18 = .ok (.invokevirtual 55, 3) := by decide +kernel
theorem dX7_digitOf_21 : decode cX7_digitOf 21 = .ok (.ireturn, 1) := by decide +kernel
set_option maxRecDepth 20000 in
theorem ggX7_after_X0_digitFor : GoodIn wsX7_after wsX0_digitFor := goodIn_r _ [7, 8, 9, 10, 11, 12, 13, 14, 26, 27, 28, 29, 30, 31, 32] (by decide +kernel) (by decide +kernel)
set_option maxRecDepth 20000 in
theorem gX7_after_X0_digitFor_n55 : GoodIn wsX7_after (wsX0_digitFor) := ggX7_after_X0_digitFor
set_option maxRecDepth 20000 in
theorem ggX7_after_X0_quotient : GoodIn wsX7_after wsX0_quotient := goodIn_r _ [17, 18, 26, 27, 28, 29, 30, 31, 32] (by decide +kernel) (by decide +kernel)
set_option maxRecDepth 20000 in
theorem gX7_after_X0_quotient_n58 : GoodIn wsX7_after (wsX0_quotient) := ggX7_after_X0_quotient
theorem dX7_after_0 : decode cX7_after 0 = .ok (.aload_n 0, 1) := by decide +kernel
theorem dX7_after_1 : decode cX7_after 1 = .ok (.getfield 21, 3) := by decide +kernel
theorem dX7_after_4 : decode cX7_after 4 = .ok (.getfield 52, 3) := by decide +kernel
theorem dX7_after_7 : decode cX7_after 7 = .ok (.iload_n 1, 1) := by decide +kernel
theorem dX7_after_8 : decode cX7_after 8 = .ok (.imul, 1) := by decide +kernel
theorem dX7_after_9 : decode cX7_after 9 = .ok (.istore_n 2, 1) := by decide +kernel
theorem dX7_after_10 : decode cX7_after 10 = .ok (.aload_n 0, 1) := by decide +kernel
theorem dX7_after_11 : decode cX7_after 11 = .ok (.getfield 21, 3) := by decide +kernel
theorem dX7_after_14 : decode cX7_after 14 = .ok (.iload_n 2, 1) := by decide +kernel
theorem dX7_after_15 : decode cX7_after 15 = .ok (.aload_n 0, 1) := by decide +kernel
theorem dX7_after_16 : decode cX7_after 16 = .ok (.getfield 21, 3) := by decide +kernel
theorem dX7_after_19 : decode cX7_after 19 = .ok (.iload_n 2, 1) := by decide +kernel
theorem dX7_after_20 : decode cX7_after 20 = .ok (.aload_n 0, 1) := by decide +kernel
theorem dX7_after_21 : decode cX7_after 21 = .ok (.getfield 15, 3) := by decide +kernel
theorem dX7_after_24 : decode cX7_after 24 = .ok (.imul, 1) := by decide +kernel
theorem dX7_after_25 : decode cX7_after 25 = .ok (.invokevirtual 55, 3) := by decide +kernel
theorem dX7_after_28 : decode cX7_after 28 = .ok (.aload_n 0, 1) := by decide +kernel
theorem dX7_after_29 : decode cX7_after 29 = .ok (.getfield 9, 3) := by decide +kernel
theorem dX7_after_32 : decode cX7_after 32 = .ok (.imul, 1) := by decide +kernel
theorem dX7_after_33 : decode cX7_after 33 = .ok (.isub, 1) := by decide +kernel
theorem dX7_after_34 : decode cX7_after 34 = .ok (.invokevirtual 58, 3) := by decide +kernel
theorem dX7_after_37 : decode cX7_after 37 = .ok (.ireturn, 1) := by decide +kernel
set_option maxRecDepth 20000 in
theorem ggX7_ahead_X7_after : GoodIn wsX7_ahead wsX7_after := goodIn_r _ [5, 6, 7, 8, 9, 10, 11, 12, 13, 14, 15, 16, 17, 18, 19, 20, 21, 22, 23, 24, 25, 26, 27, 28, 29, 30, 31, 32, 33, 34, 35, 36, 37] (by decide +kernel) (by decide +kernel)
set_option maxRecDepth 20000 in
theorem gX7_ahead_X7_after : GoodIn wsX7_ahead (wsV RX7 61 RX7 yX7_after wsX7_after) := goodIn_app (goodIn_of _ (by decide +kernel)) ggX7_ahead_X7_after
theorem dX7_ahead_0 : decode cX7_ahead 0 = .ok (.iload_n 1, 1) := by decide +kernel
theorem dX7_ahead_1 : decode cX7_ahead 1 = .ok (.istore_n 3, 1) := by decide +kernel
theorem dX7_ahead_2 : decode cX7_ahead 2 = .ok (.iconst 0, 1) := by decide +kernel
theorem dX7_ahead_3 : decode cX7_ahead 3 = .ok (.istore 4, 2) := by decide +kernel
theorem dX7_ahead_5 : decode cX7_ahead 5 = .ok (.iload 4, 2) := by decide +kernel
theorem dX7_ahead_7 : decode cX7_ahead 7 = .ok (.iload_n 2, 1) := by decide +kernel
theorem dX7_ahead_8 : decode cX7_ahead 8 = .ok (.if_icmp .ge 15, 3) := by decide +kernel
theorem dX7_ahead_11 : decode cX7_ahead 11 = .ok (.aload_n 0, 1) := by decide +kernel
theorem dX7_ahead_12 : decode cX7_ahead 12 = .ok (.iload_n 3, 1) := by decide +kernel
theorem dX7_ahead_13 : decode cX7_ahead 13 = .ok (.invokevirtual 61, 3) := by decide +kernel
theorem dX7_ahead_16 : decode cX7_ahead 16 = .ok (.istore_n 3, 1) := by decide +kernel
theorem dX7_ahead_17 : decode cX7_ahead 17 = .ok (.iinc 4 1, 3) := by decide +kernel
theorem dX7_ahead_20 : decode cX7_ahead 20 = .ok (.goto (-15), 3) := by decide +kernel
theorem dX7_ahead_23 : decode cX7_ahead 23 = .ok (.iload_n 3, 1) := by decide +kernel
theorem dX7_ahead_24 : decode cX7_ahead 24 = .ok (.ireturn, 1) := by decide +kernel
set_option maxRecDepth 20000 in
theorem ggX7_distanceAround_X7_after : GoodIn wsX7_distanceAround wsX7_after := goodIn_r _ [7, 8, 9, 10, 11, 12, 13, 14, 15, 16, 17, 18, 19, 20, 21, 22, 23, 24, 25, 26, 27, 28, 29, 30, 31, 32, 33, 34, 35, 36, 37, 38, 39] (by decide +kernel) (by decide +kernel)
set_option maxRecDepth 20000 in
theorem gX7_distanceAround_X7_after : GoodIn wsX7_distanceAround (wsV RX7 61 RX7 yX7_after wsX7_after) := goodIn_app (goodIn_of _ (by decide +kernel)) ggX7_distanceAround_X7_after
theorem dX7_distanceAround_0 : decode cX7_distanceAround 0 = .ok (.aload_n 0, 1) := by decide +kernel
theorem dX7_distanceAround_1 : decode cX7_distanceAround 1 = .ok (.getfield 25, 3) := by decide +kernel
theorem dX7_distanceAround_4 : decode cX7_distanceAround 4 = .ok (.istore_n 1, 1) := by decide +kernel
theorem dX7_distanceAround_5 : decode cX7_distanceAround 5 = .ok (.aload_n 0, 1) := by decide +kernel
theorem dX7_distanceAround_6 : decode cX7_distanceAround 6 = .ok (.getfield 25, 3) := by decide +kernel
theorem dX7_distanceAround_9 : decode cX7_distanceAround 9 = .ok (.istore_n 2, 1) := by decide +kernel
theorem dX7_distanceAround_10 : decode cX7_distanceAround 10 = .ok (.iconst 1, 1) := by decide +kernel
theorem dX7_distanceAround_11 : decode cX7_distanceAround 11 = .ok (.istore_n 3, 1) := by decide +kernel
theorem dX7_distanceAround_12 : decode cX7_distanceAround 12 = .ok (.iconst 0, 1) := by decide +kernel
theorem dX7_distanceAround_13 : decode cX7_distanceAround 13 = .ok (.istore 4, 2) := by decide +kernel
theorem dX7_distanceAround_15 : decode cX7_distanceAround 15 = .ok (.iconst 0, 1) := by decide +kernel
theorem dX7_distanceAround_16 : decode cX7_distanceAround 16 = .ok (.istore 5, 2) := by decide +kernel
theorem dX7_distanceAround_18 : decode cX7_distanceAround 18 = .ok (.iload 5, 2) := by decide +kernel
theorem dX7_distanceAround_20 : decode cX7_distanceAround 20 = .ok (.ldc 64, 2) := by decide +kernel
theorem dX7_distanceAround_22 : decode cX7_distanceAround 22 = .ok (.if_icmp .ge 41, 3) := by decide +kernel
theorem dX7_distanceAround_25 : decode cX7_distanceAround 25 = .ok (.aload_n 0, 1) := by decide +kernel
theorem dX7_distanceAround_26 : decode cX7_distanceAround 26 = .ok (.iload_n 2, 1) := by decide +kernel
theorem dX7_distanceAround_27 : decode cX7_distanceAround 27 = .ok (.invokevirtual 61, 3) := by decide +kernel
theorem dX7_distanceAround_30 : decode cX7_distanceAround 30 = .ok (.istore_n 2, 1) := by decide +kernel
theorem dX7_distanceAround_31 : decode cX7_distanceAround 31 = .ok (.iinc 4 1, 3) := by decide +kernel
theorem dX7_distanceAround_34 : decode cX7_distanceAround 34 = .ok (.iload_n 2, 1) := by decide +kernel
theorem dX7_distanceAround_35 : decode cX7_distanceAround 35 = .ok (.iload_n 1, 1) := by decide +kernel
theorem dX7_distanceAround_36 : decode cX7_distanceAround 36 = .ok (.if_icmp .ne 6, 3) := by decide +kernel
theorem dX7_distanceAround_39 : decode cX7_distanceAround 39 = .ok (.iload 4, 2) := by decide +kernel
theorem dX7_distanceAround_41 : decode cX7_distanceAround 41 = .ok (.ireturn, 1) := by decide +kernel
theorem dX7_distanceAround_42 : decode cX7_distanceAround 42 = .ok (.iload 4, 2) := by decide +kernel
theorem dX7_distanceAround_44 : decode cX7_distanceAround 44 = .ok (.iload_n 3, 1) := by decide +kernel
theorem dX7_distanceAround_45 : decode cX7_distanceAround 45 = .ok (.if_icmp .ne 12, 3) := by decide +kernel
theorem dX7_distanceAround_48 : decode cX7_distanceAround 48 = .ok (.iload_n 2, 1) := by decide +kernel
theorem dX7_distanceAround_49 : decode cX7_distanceAround 49 = .ok (.istore_n 1, 1) := by decide +kernel
theorem dX7_distanceAround_50 : decode cX7_distanceAround 50 = .ok (.iconst 2, 1) := by decide +kernel
theorem dX7_distanceAround_51 : decode cX7_distanceAround 51 = .ok (.iload_n 3, 1) := by decide +kernel
theorem dX7_distanceAround_52 : decode cX7_distanceAround 52 = .ok (.imul, 1) := by decide +kernel
theorem dX7_distanceAround_53 : decode cX7_distanceAround 53 = .ok (.istore_n 3, 1) := by decide +kernel
theorem dX7_distanceAround_54 : decode cX7_distanceAround 54 = .ok (.iconst 0, 1) := by decide +kernel
theorem dX7_distanceAround_55 : decode cX7_distanceAround 55 = .ok (.istore 4, 2) := by decide +kernel
theorem dX7_distanceAround_57 : decode cX7_distanceAround 57 = .ok (.iinc 5 1, 3) := by decide +kernel
theorem dX7_distanceAround_60 : decode cX7_distanceAround 60 = .ok (.goto (-42), 3) := by decide +kernel
theorem dX7_distanceAround_63 : decode cX7_distanceAround 63 = .ok (.iconst 1, 1) := by decide +kernel
theorem dX7_distanceAround_64 : decode cX7_distanceAround 64 = .ok (.ireturn, 1) := by decide +kernel
set_option maxRecDepth 20000 in
theorem ggX7_findEntrance_X7_after : GoodIn wsX7_findEntrance wsX7_after := goodIn_r _ [9, 10, 11, 12, 13, 14, 15, 16, 17, 18, 19, 20, 21, 22, 23, 24, 25, 26, 27, 28, 29, 30, 31, 32, 33, 34, 35, 36, 37, 38, 39, 40, 41] (by decide +kernel) (by decide +kernel)
set_option maxRecDepth 20000 in
theorem gX7_findEntrance_X7_after : GoodIn wsX7_findEntrance (wsV RX7 61 RX7 yX7_after wsX7_after) := goodIn_app (goodIn_of _ (by decide +kernel)) ggX7_findEntrance_X7_after
theorem dX7_findEntrance_0 : decode cX7_findEntrance 0 = .ok (.aload_n 0, 1) := by decide +kernel
theorem dX7_findEntrance_1 : decode cX7_findEntrance 1 = .ok (.getfield 25, 3) := by decide +kernel
theorem dX7_findEntrance_4 : decode cX7_findEntrance 4 = .ok (.istore_n 2, 1) := by decide +kernel
theorem dX7_findEntrance_5 : decode cX7_findEntrance 5 = .ok (.iload_n 1, 1) := by decide +kernel
theorem dX7_findEntrance_6 : decode cX7_findEntrance 6 = .ok (.istore_n 3, 1) := by decide +kernel
theorem dX7_findEntrance_7 : decode cX7_findEntrance 7 = .ok (.aload_n 0, 1) := by decide +kernel
theorem dX7_findEntrance_8 : decode cX7_findEntrance 8 = .ok (.iconst 0, 1) := by decide +kernel
theorem dX7_findEntrance_9 : decode cX7_findEntrance 9 = .ok (.putfield 65, 3) := by decide +kernel
theorem dX7_findEntrance_12 : decode cX7_findEntrance 12 = .ok (.iconst 0, 1) := by decide +kernel
theorem dX7_findEntrance_13 : decode cX7_findEntrance 13 = .ok (.istore 4, 2) := by decide +kernel
theorem dX7_findEntrance_15 : decode cX7_findEntrance 15 = .ok (.iload 4, 2) := by decide +kernel
theorem dX7_findEntrance_17 : decode cX7_findEntrance 17 = .ok (.ldc 64, 2) := by decide +kernel
theorem dX7_findEntrance_19 : decode cX7_findEntrance 19 = .ok (.if_icmp .ge 36, 3) := by decide +kernel
theorem dX7_findEntrance_22 : decode cX7_findEntrance 22 = .ok (.iload_n 2, 1) := by decide +kernel
theorem dX7_findEntrance_23 : decode cX7_findEntrance 23 = .ok (.iload_n 3, 1) := by decide +kernel
theorem dX7_findEntrance_24 : decode cX7_findEntrance 24 = .ok (.if_icmp .eq 31, 3) := by decide +kernel
theorem dX7_findEntrance_27 : decode cX7_findEntrance 27 = .ok (.aload_n 0, 1) := by decide +kernel
theorem dX7_findEntrance_28 : decode cX7_findEntrance 28 = .ok (.iload_n 2, 1) := by decide +kernel
theorem dX7_findEntrance_29 : decode cX7_findEntrance 29 = .ok (.invokevirtual 61, 3) := by decide +kernel
theorem dX7_findEntrance_32 : decode cX7_findEntrance 32 = .ok (.istore_n 2, 1) := by decide +kernel
theorem dX7_findEntrance_33 : decode cX7_findEntrance 33 = .ok (.aload_n 0, 1) := by decide +kernel
theorem dX7_findEntrance_34 : decode cX7_findEntrance 34 = .ok (.iload_n 3, 1) := by decide +kernel
theorem dX7_findEntrance_35 : decode cX7_findEntrance 35 = .ok (.invokevirtual 61, 3) := by decide +kernel
theorem dX7_findEntrance_38 : decode cX7_findEntrance 38 = .ok (.istore_n 3, 1) := by decide +kernel
theorem dX7_findEntrance_39 : decode cX7_findEntrance 39 = .ok (.aload_n 0, 1) := by decide +kernel
theorem dX7_findEntrance_40 : decode cX7_findEntrance 40 = .ok (.dup, 1) := by decide +kernel
theorem dX7_findEntrance_41 : decode cX7_findEntrance 41 = .ok (.getfield 65, 3) := by decide +kernel
theorem dX7_findEntrance_44 : decode cX7_findEntrance 44 = .ok (.iconst 1, 1) := by decide +kernel
theorem dX7_findEntrance_45 : decode cX7_findEntrance 45 = .ok (.iadd, 1) := by decide +kernel
theorem dX7_findEntrance_46 : decode cX7_findEntrance 46 = .ok (.putfield 65, 3) := by decide +kernel
theorem dX7_findEntrance_49 : decode cX7_findEntrance 49 = .ok (.iinc 4 1, 3) := by decide +kernel
theorem dX7_findEntrance_52 : decode cX7_findEntrance 52 = .ok (.goto (-37), 3) := by decide +kernel
theorem dX7_findEntrance_55 : decode cX7_findEntrance 55 = .ok (.aload_n 0, 1) := by decide +kernel
theorem dX7_findEntrance_56 : decode cX7_findEntrance 56 = .ok (.iload_n 2, 1) := by decide +kernel
theorem dX7_findEntrance_57 : decode cX7_findEntrance 57 = .ok (.putfield 68, 3) := by decide +kernel
theorem dX7_findEntrance_60 : decode cX7_findEntrance 60 = .ok (.return_, 1) := by decide +kernel
set_option maxRecDepth 20000 in
theorem ggX7_numeratorAt_X7_ahead : GoodIn wsX7_numeratorAt wsX7_ahead := goodIn_r _ [13, 14, 15, 16, 12, 17, 18, 19, 20, 21, 22, 23, 24, 25, 26, 27, 28, 29, 30, 31, 32, 33, 34, 35, 36, 37, 38, 39, 40, 41, 42, 43, 44, 45, 46, 47, 48, 49] (by decide +kernel) (by decide +kernel)
set_option maxRecDepth 20000 in
theorem gX7_numeratorAt_X7_ahead : GoodIn wsX7_numeratorAt (wsV RX7 36 RX7 yX7_ahead wsX7_ahead) := goodIn_app (goodIn_of _ (by decide +kernel)) ggX7_numeratorAt_X7_ahead
theorem dX7_numeratorAt_0 : decode cX7_numeratorAt 0 = .ok (.iload_n 1, 1) := by decide +kernel
theorem dX7_numeratorAt_1 : decode cX7_numeratorAt 1 = .ok (.aload_n 0, 1) := by decide +kernel
theorem dX7_numeratorAt_2 : decode cX7_numeratorAt 2 = .ok (.getfield 65, 3) := by decide +kernel
theorem dX7_numeratorAt_5 : decode cX7_numeratorAt 5 = .ok (.if_icmp .lt 11, 3) := by decide +kernel
theorem dX7_numeratorAt_8 : decode cX7_numeratorAt 8 = .ok (.aload_n 0, 1) := by decide +kernel
theorem dX7_numeratorAt_9 : decode cX7_numeratorAt 9 = .ok (.getfield 18, 3) := by decide +kernel
theorem dX7_numeratorAt_12 : decode cX7_numeratorAt 12 = .ok (.iconst 1, 1) := by decide +kernel
theorem dX7_numeratorAt_13 : decode cX7_numeratorAt 13 = .ok (.if_icmp .ge 20, 3) := by decide +kernel
theorem dX7_numeratorAt_16 : decode cX7_numeratorAt 16 = .ok (.aload_n 0, 1) := by decide +kernel
theorem dX7_numeratorAt_17 : decode cX7_numeratorAt 17 = .ok (.aload_n 0, 1) := by decide +kernel
theorem dX7_numeratorAt_18 : decode cX7_numeratorAt 18 = .ok (.getfield 25, 3) := by decide +kernel
theorem dX7_numeratorAt_21 : decode cX7_numeratorAt 21 = .ok (.iload_n 1, 1) := by decide +kernel
theorem dX7_numeratorAt_22 : decode cX7_numeratorAt 22 = .ok (.aload_n 0, 1) := by decide +kernel
theorem dX7_numeratorAt_23 : decode cX7_numeratorAt 23 = .ok (.getfield 65, 3) := by decide +kernel
theorem dX7_numeratorAt_26 : decode cX7_numeratorAt 26 = .ok (.invokestatic 71, 3) := by decide +kernel
theorem dX7_numeratorAt_29 : decode cX7_numeratorAt 29 = .ok (.invokevirtual 36, 3) := by decide +kernel
theorem dX7_numeratorAt_32 : decode cX7_numeratorAt 32 = .ok (.ireturn, 1) := by decide +kernel
theorem dX7_numeratorAt_33 : decode cX7_numeratorAt 33 = .ok (.aload_n 0, 1) := by decide +kernel
theorem dX7_numeratorAt_34 : decode cX7_numeratorAt 34 = .ok (.aload_n 0, 1) := by decide +kernel
theorem dX7_numeratorAt_35 : decode cX7_numeratorAt 35 = .ok (.getfield 68, 3) := by decide +kernel
theorem dX7_numeratorAt_38 : decode cX7_numeratorAt 38 = .ok (.iload_n 1, 1) := by decide +kernel
theorem dX7_numeratorAt_39 : decode cX7_numeratorAt 39 = .ok (.aload_n 0, 1) := by decide +kernel
theorem dX7_numeratorAt_40 : decode cX7_numeratorAt 40 = .ok (.getfield 65, 3) := by decide +kernel
theorem dX7_numeratorAt_43 : decode cX7_numeratorAt 43 = .ok (.isub, 1) := by decide +kernel
theorem dX7_numeratorAt_44 : decode cX7_numeratorAt 44 = .ok (.aload_n 0, 1) := by decide +kernel
theorem dX7_numeratorAt_45 : decode cX7_numeratorAt 45 = .ok (.getfield 18, 3) := by decide +kernel
theorem dX7_numeratorAt_48 : decode cX7_numeratorAt 48 = .ok (.irem, 1) := by decide +kernel
theorem dX7_numeratorAt_49 : decode cX7_numeratorAt 49 = .ok (.invokevirtual 36, 3) := by decide +kernel
theorem dX7_numeratorAt_52 : decode cX7_numeratorAt 52 = .ok (.ireturn, 1) := by decide +kernel
theorem dX7_isFinite_0 : decode cX7_isFinite 0 = .ok (.aload_n 0, 1) := by decide +kernel
theorem dX7_isFinite_1 : decode cX7_isFinite 1 = .ok (.getfield 68, 3) := by decide +kernel
theorem dX7_isFinite_4 : decode cX7_isFinite 4 = .ok (.ifCond .ne 15, 3) := by decide +kernel
theorem dX7_isFinite_7 : decode cX7_isFinite 7 = .ok (.aload_n 0, 1) := by decide +kernel
theorem dX7_isFinite_8 : decode cX7_isFinite 8 = .ok (.getfield 18, 3) := by decide +kernel
theorem dX7_isFinite_11 : decode cX7_isFinite 11 = .ok (.iconst 1, 1) := by decide +kernel
theorem dX7_isFinite_12 : decode cX7_isFinite 12 = .ok (.if_icmp .ne 7, 3) := by decide +kernel
theorem dX7_isFinite_15 : decode cX7_isFinite 15 = .ok (.iconst 1, 1) := by decide +kernel
theorem dX7_isFinite_16 : decode cX7_isFinite 16 = .ok (.goto 4, 3) := by decide +kernel
theorem dX7_isFinite_19 : decode cX7_isFinite 19 = .ok (.iconst 0, 1) := by decide +kernel
theorem dX7_isFinite_20 : decode cX7_isFinite 20 = .ok (.ireturn, 1) := by decide +kernel
theorem dX8_init_0 : decode cX8_init 0 = .ok (.aload_n 0, 1) := by decide +kernel
theorem dX8_init_1 : decode cX8_init 1 = .ok (.invokespecial 3, 3) := by decide +kernel
theorem dX8_init_4 : decode cX8_init 4 = .ok (.aload_n 0, 1) := by decide +kernel
theorem dX8_init_5 : decode cX8_init 5 = .ok (.bipush 13, 2) := by decide +kernel
theorem dX8_init_7 : decode cX8_init 7 = .ok (.newarray .int, 2) := by decide +kernel
theorem dX8_init_9 : decode cX8_init 9 = .ok (.putfield 9, 3) := by decide +kernel
theorem dX8_init_12 : decode cX8_init 12 = .ok (.aload_n 0, 1) := by decide +kernel
theorem dX8_init_13 : decode cX8_init 13 = .ok (.bipush 13, 2) := by decide +kernel
theorem dX8_init_15 : decode cX8_init 15 = .ok (.newarray .int, 2) := by decide +kernel
theorem dX8_init_17 : decode cX8_init 17 = .ok (.putfield 15, 3) := by decide +kernel
theorem dX8_init_20 : decode cX8_init 20 = .ok (.aload_n 0, 1) := by decide +kernel
theorem dX8_init_21 : decode cX8_init 21 = .ok (.sipush 533, 3) := by decide +kernel
theorem dX8_init_24 : decode cX8_init 24 = .ok (.newarray .long, 2) := by decide +kernel
theorem dX8_init_26 : decode cX8_init 26 = .ok (.putfield 18, 3) := by decide +kernel
theorem dX8_init_29 : decode cX8_init 29 = .ok (.aload_n 0, 1) := by decide +kernel
theorem dX8_init_30 : decode cX8_init 30 = .ok (.aload_n 1, 1) := by decide +kernel
theorem dX8_init_31 : decode cX8_init 31 = .ok (.putfield 22, 3) := by decide +kernel
theorem dX8_init_34 : decode cX8_init 34 = .ok (.return_, 1) := by decide +kernel
set_option maxRecDepth 20000 in
theorem ggX8_rowsWith_X8_findBounds : GoodIn wsX8_rowsWith wsX8_findBounds := goodIn_r _ [6, 7, 8, 9, 10, 11, 12, 13, 14, 15, 16, 17, 18, 19, 20, 21, 22, 23, 24, 25, 26, 27, 28, 29, 30, 31, 32, 33, 5, 34, 35, 36, 37, 38, 39, 40, 41, 42, 79, 80, 81, 82, 83, 84, 85, 86, 87, 88, 89, 90, 91, 92] (by decide +kernel) (by decide +kernel)
set_option maxRecDepth 20000 in
theorem gX8_rowsWith_X8_findBounds : GoodIn wsX8_rowsWith (wsV RX8 26 RX8 yX8_findBounds wsX8_findBounds) := goodIn_app (goodIn_of _ (by decide +kernel)) ggX8_rowsWith_X8_findBounds
set_option maxRecDepth 20000 in
theorem ggX8_rowsWith_X8_highestAt : GoodIn wsX8_rowsWith wsX8_highestAt := goodIn_r _ [46, 9, 79, 80, 81, 82, 83, 84, 85] (by decide +kernel) (by decide +kernel)
set_option maxRecDepth 20000 in
theorem gX8_rowsWith_X8_highestAt : GoodIn wsX8_rowsWith (wsV RX8 34 RX8 yX8_highestAt wsX8_highestAt) := goodIn_app (goodIn_of _ (by decide +kernel)) ggX8_rowsWith_X8_highestAt
set_option maxRecDepth 20000 in
theorem ggX8_rowsWith_X8_lowestAt : GoodIn wsX8_rowsWith wsX8_lowestAt := goodIn_r _ [50, 8, 79, 80, 81, 82, 83, 84, 85] (by decide +kernel) (by decide +kernel)
set_option maxRecDepth 20000 in
theorem gX8_rowsWith_X8_lowestAt : GoodIn wsX8_rowsWith (wsV RX8 38 RX8 yX8_lowestAt wsX8_lowestAt) := goodIn_app (goodIn_of _ (by decide +kernel)) ggX8_rowsWith_X8_lowestAt
set_option maxRecDepth 20000 in
theorem ggX8_rowsWith_X8_rowsFrom : GoodIn wsX8_rowsWith wsX8_rowsFrom := goodIn_r _ [54, 7, 21, 15, 22, 23, 24, 55, 56, 57, 5, 58, 59, 60, 61, 62, 63, 64, 65, 66, 67, 68, 69, 70, 71, 72, 73, 74, 47, 48, 49, 50, 8, 43, 44, 45, 46, 9, 79, 80, 81, 82, 83, 84, 85, 86, 87, 88, 89, 90, 91, 92] (by decide +kernel) (by decide +kernel)
set_option maxRecDepth 20000 in
theorem gX8_rowsWith_X8_rowsFrom : GoodIn wsX8_rowsWith (wsV RX8 41 RX8 yX8_rowsFrom wsX8_rowsFrom) := goodIn_app (goodIn_of _ (by decide +kernel)) ggX8_rowsWith_X8_rowsFrom
set_option maxRecDepth 20000 in
theorem ggX8_rowsWith_X8_put : GoodIn wsX8_rowsWith wsX8_put := goodIn_r _ [78, 70, 71, 72, 73, 5, 74, 47, 48, 49, 50, 8, 43, 44, 45, 46, 9, 79, 80, 81, 82, 83, 84, 85] (by decide +kernel) (by decide +kernel)
set_option maxRecDepth 20000 in
theorem gX8_rowsWith_X8_put : GoodIn wsX8_rowsWith (wsV RX8 45 RX8 yX8_put wsX8_put) := goodIn_app (goodIn_of _ (by decide +kernel)) ggX8_rowsWith_X8_put
set_option maxRecDepth 20000 in
theorem ggX8_rowsWith_X8_at : GoodIn wsX8_rowsWith wsX8_at := goodIn_r _ [69, 70, 71, 72, 73, 5, 74, 47, 48, 49, 50, 8, 43, 44, 45, 46, 9, 79, 80, 81, 82, 83, 84, 85] (by decide +kernel) (by decide +kernel)
set_option maxRecDepth 20000 in
theorem gX8_rowsWith_X8_at : GoodIn wsX8_rowsWith (wsV RX8 49 RX8 yX8_at wsX8_at) := goodIn_app (goodIn_of _ (by decide +kernel)) ggX8_rowsWith_X8_at
theorem dX8_rowsWith_0 : decode cX8_rowsWith 0 = .ok (.aload_n 0, 1) := by decide +kernel
theorem dX8_rowsWith_1 : decode cX8_rowsWith 1 = .ok (.iload_n 1, 1) := by decide +kernel
theorem dX8_rowsWith_2 : decode cX8_rowsWith 2 = .ok (.invokevirtual 26, 3) := by decide +kernel
theorem dX8_rowsWith_5 : decode cX8_rowsWith 5 = .ok (.aload_n 0, 1) := by decide +kernel
theorem dX8_rowsWith_6 : decode cX8_rowsWith 6 = .ok (.iload_n 2, 1) := by decide +kernel
theorem dX8_rowsWith_7 : decode cX8_rowsWith 7 = .ok (.putfield 30, 3) := by decide +kernel
theorem dX8_rowsWith_10 : decode cX8_rowsWith 10 = .ok (.iload_n 2, 1) := by decide +kernel
theorem dX8_rowsWith_11 : decode cX8_rowsWith 11 = .ok (.istore_n 3, 1) := by decide +kernel
theorem dX8_rowsWith_12 : decode cX8_rowsWith 12 = .ok (.iload_n 3, 1) := by decide +kernel
theorem dX8_rowsWith_13 : decode cX8_rowsWith 13 = .ok (.ifCond .lt 69, 3) := by decide +kernel
theorem dX8_rowsWith_16 : decode cX8_rowsWith 16 = .ok (.aload_n 0, 1) := by decide +kernel
theorem dX8_rowsWith_17 : decode cX8_rowsWith 17 = .ok (.iload_n 3, 1) := by decide +kernel
theorem dX8_rowsWith_18 : decode cX8_rowsWith 18 = .ok (.invokevirtual 34, 3) := by decide +kernel
theorem dX8_rowsWith_21 : decode cX8_rowsWith 21 = .ok (.istore 4, 2) := by decide +kernel
theorem dX8_rowsWith_23 : decode cX8_rowsWith 23 = .ok (.aload_n 0, 1) := by decide +kernel
theorem dX8_rowsWith_24 : decode cX8_rowsWith 24 = .ok (.iload_n 3, 1) := by decide +kernel
theorem dX8_rowsWith_25 : decode cX8_rowsWith 25 = .ok (.invokevirtual 38, 3) := by decide +kernel
theorem dX8_rowsWith_28 : decode cX8_rowsWith 28 = .ok (.istore 5, 2) := by decide +kernel
theorem dX8_rowsWith_30 : decode cX8_rowsWith 30 = .ok (.iload 5, 2) := by decide +kernel
theorem dX8_rowsWith_32 : decode cX8_rowsWith 32 = .ok (.iload 4, 2) := by decide +kernel
theorem dX8_rowsWith_34 : decode cX8_rowsWith 34 = .ok (.if_icmp .gt 42, 3) := by decide +kernel
theorem dX8_rowsWith_37 : decode cX8_rowsWith 37 = .ok (.aload_n 0, 1) := by decide +kernel
theorem dX8_rowsWith_38 : decode cX8_rowsWith 38 = .ok (.iload_n 3, 1) := by decide +kernel
theorem dX8_rowsWith_39 : decode cX8_rowsWith 39 = .ok (.iload 5, 2) := by decide +kernel
theorem dX8_rowsWith_41 : decode cX8_rowsWith 41 = .ok (.iload_n 3, 1) := by decide +kernel
theorem dX8_rowsWith_42 : decode cX8_rowsWith 42 = .ok (.iload_n 2, 1) := by decide +kernel
theorem dX8_rowsWith_43 : decode cX8_rowsWith 43 = .ok (.if_icmp .ne 17, 3) := by decide +kernel
theorem dX8_rowsWith_46 : decode cX8_rowsWith 46 = .ok (.iload 5, 2) := by decide +kernel
theorem dX8_rowsWith_48 : decode cX8_rowsWith 48 = .ok (.ifCond .ne 7, 3) := by decide +kernel
theorem dX8_rowsWith_51 : decode cX8_rowsWith 51 = .ok (.iconst 1, 1) := by decide +kernel
theorem dX8_rowsWith_52 : decode cX8_rowsWith 52 = .ok (.goto 4, 3) := by decide +kernel
theorem dX8_rowsWith_55 : decode cX8_rowsWith 55 = .ok (.iconst 0, 1) := by decide +kernel
theorem dX8_rowsWith_56 : decode cX8_rowsWith 56 = .ok (.i2l, 1) := by decide +kernel
theorem dX8_rowsWith_57 : decode cX8_rowsWith 57 = .ok (.goto 10, 3) := by decide +kernel
theorem dX8_rowsWith_60 : decode cX8_rowsWith 60 = .ok (.aload_n 0, 1) := by decide +kernel
theorem dX8_rowsWith_61 : decode cX8_rowsWith 61 = .ok (.iload_n 3, 1) := by decide +kernel
theorem dX8_rowsWith_62 : decode cX8_rowsWith 62 = .ok (.iload 5, 2) := by decide +kernel
theorem dX8_rowsWith_64 : decode cX8_rowsWith 64 = .ok (.invokevirtual 41, 3) := by decide +kernel
theorem dX8_rowsWith_67 : decode cX8_rowsWith 67 = .ok (.invokevirtual 45, 3) := by decide +kernel
theorem dX8_rowsWith_70 : decode cX8_rowsWith 70 = .ok (.iinc 5 1, 3) := by decide +kernel
theorem dX8_rowsWith_73 : decode cX8_rowsWith 73 = .ok (.goto (-43), 3) := by decide +kernel
theorem dX8_rowsWith_76 : decode cX8_rowsWith 76 = .ok (.iinc 3 (-1), 3) := by decide +kernel
theorem dX8_rowsWith_79 : decode cX8_rowsWith 79 = .ok (.goto (-67), 3) := by decide +kernel
theorem dX8_rowsWith_82 : decode cX8_rowsWith 82 = .ok (.aload_n 0, 1) := by decide +kernel
theorem dX8_rowsWith_83 : decode cX8_rowsWith 83 = .ok (.iconst 0, 1) := by decide +kernel
theorem dX8_rowsWith_84 : decode cX8_rowsWith 84 = .ok (.iload_n 1, 1) := by decide +kernel
theorem dX8_rowsWith_85 : decode cX8_rowsWith 85 = .ok (.invokevirtual 49, 3) := by decide +kernel
theorem dX8_rowsWith_88 : decode cX8_rowsWith 88 = .ok (.lreturn, 1) := by decide +kernel
set_option maxRecDepth 20000 in
theorem ggX8_entryOfRow_X8_takeDigit : GoodIn wsX8_entryOfRow wsX8_takeDigit := goodIn_r _ [10, 5, 1, 2, 3, 11, 12, 13, 14, 15, 16, 17, 18, 9, 19, 20, 21, 22, 23, 24, 25, 26, 27, 28, 29, 30, 31, 32, 33, 34, 35, 36, 37, 38, 39, 40, 41, 42, 43, 44, 45, 46, 47, 48, 49, 50, 51, 52, 53, 54, 55, 56, 57, 58, 59] (by decide +kernel) (by decide +kernel)
set_option maxRecDepth 20000 in
theorem gX8_entryOfRow_X8_takeDigit : GoodIn wsX8_entryOfRow (wsV RX8 60 RX8 yX8_takeDigit wsX8_takeDigit) := goodIn_app (goodIn_of _ (by decide +kernel)) ggX8_entryOfRow_X8_takeDigit
set_option maxRecDepth 20000 in
theorem ggX8_entryOfRow_X0_quotient : GoodIn wsX8_entryOfRow wsX0_quotient := goodIn_r _ [26, 23, 53, 54, 55, 56, 57, 58, 59] (by decide +kernel) (by decide +kernel)
set_option maxRecDepth 20000 in
theorem gX8_entryOfRow_X0_quotient_n68 : GoodIn wsX8_entryOfRow (wsX0_quotient) := ggX8_entryOfRow_X0_quotient
theorem dX8_entryOfRow_0 : decode cX8_entryOfRow 0 = .ok (.aload_n 0, 1) := by decide +kernel
theorem dX8_entryOfRow_1 : decode cX8_entryOfRow 1 = .ok (.iload_n 1, 1) := by decide +kernel
theorem dX8_entryOfRow_2 : decode cX8_entryOfRow 2 = .ok (.putfield 52, 3) := by decide +kernel
theorem dX8_entryOfRow_5 : decode cX8_entryOfRow 5 = .ok (.aload_n 0, 1) := by decide +kernel
theorem dX8_entryOfRow_6 : decode cX8_entryOfRow 6 = .ok (.iload_n 2, 1) := by decide +kernel
theorem dX8_entryOfRow_7 : decode cX8_entryOfRow 7 = .ok (.i2l, 1) := by decide +kernel
theorem dX8_entryOfRow_8 : decode cX8_entryOfRow 8 = .ok (.putfield 55, 3) := by decide +kernel
theorem dX8_entryOfRow_11 : decode cX8_entryOfRow 11 = .ok (.ldc 59, 2) := by decide +kernel
theorem dX8_entryOfRow_13 : decode cX8_entryOfRow 13 = .ok (.istore 4, 2) := by decide +kernel
theorem dX8_entryOfRow_15 : decode cX8_entryOfRow 15 = .ok (.iconst 0, 1) := by decide +kernel
theorem dX8_entryOfRow_16 : decode cX8_entryOfRow 16 = .ok (.istore 5, 2) := by decide +kernel
theorem dX8_entryOfRow_18 : decode cX8_entryOfRow 18 = .ok (.iload 5, 2) := by decide +kernel
theorem dX8_entryOfRow_20 : decode cX8_entryOfRow 20 = .ok (.iload_n 3, 1) := by decide +kernel
theorem dX8_entryOfRow_21 : decode cX8_entryOfRow 21 = .ok (.if_icmp .gt 52, 3) := by decide +kernel
theorem dX8_entryOfRow_24 : decode cX8_entryOfRow 24 = .ok (.iload 5, 2) := by decide +kernel
theorem dX8_entryOfRow_26 : decode cX8_entryOfRow 26 = .ok (.aload_n 0, 1) := by decide +kernel
theorem dX8_entryOfRow_27 : decode cX8_entryOfRow 27 = .ok (.getfield 30, 3) := by decide +kernel
theorem dX8_entryOfRow_30 : decode cX8_entryOfRow 30 = .ok (.if_icmp .ge 43, 3) := by decide +kernel
theorem dX8_entryOfRow_33 : decode cX8_entryOfRow 33 = .ok (.aload_n 0, 1) := by decide +kernel
theorem dX8_entryOfRow_34 : decode cX8_entryOfRow 34 = .ok (.iload 5, 2) := by decide +kernel
theorem dX8_entryOfRow_36 : decode cX8_entryOfRow 36 = .ok (.invokevirtual 60, 3) := by decide +kernel
theorem dX8_entryOfRow_39 : decode cX8_entryOfRow 39 = .ok (.istore 4, 2) := by decide +kernel
theorem dX8_entryOfRow_41 : decode cX8_entryOfRow 41 = .ok (.aload_n 0, 1) := by decide +kernel
theorem dX8_entryOfRow_42 : decode cX8_entryOfRow 42 = .ok (.aload_n 0, 1) := by decide +kernel
theorem dX8_entryOfRow_43 : decode cX8_entryOfRow 43 = .ok (.getfield 22, 3) := by decide +kernel
theorem dX8_entryOfRow_46 : decode cX8_entryOfRow 46 = .ok (.aload_n 0, 1) := by decide +kernel
theorem dX8_entryOfRow_47 : decode cX8_entryOfRow 47 = .ok (.getfield 22, 3) := by decide +kernel
theorem dX8_entryOfRow_50 : decode cX8_entryOfRow 50 = .ok (.getfield 63, 3) := by decide +kernel
theorem dX8_entryOfRow_53 : decode cX8_entryOfRow 53 = .ok (.aload_n 0, 1) := by decide +kernel
theorem dX8_entryOfRow_54 : decode cX8_entryOfRow 54 = .ok (.getfield 52, 3) := by decide +kernel
theorem dX8_entryOfRow_57 : decode cX8_entryOfRow 57 = .ok (.imul, 1) := by decide +kernel
theorem dX8_entryOfRow_58 : decode cX8_entryOfRow 58 = .ok (.iload 4, 2) := by decide +kernel
theorem dX8_entryOfRow_60 : decode cX8_entryOfRow 60 = .ok (.isub, 1) := by decide +kernel
theorem dX8_entryOfRow_61 : decode cX8_entryOfRow 61 = .ok (.invokevirtual 68, 3) := by decide +kernel
theorem dX8_entryOfRow_64 : decode cX8_entryOfRow 64 = .ok (.putfield 52, 3) := by decide +kernel
theorem dX8_entryOfRow_67 : decode cX8_entryOfRow 67 = .ok (.iinc 5 1, 3) := by decide +kernel
theorem dX8_entryOfRow_70 : decode cX8_entryOfRow 70 = .ok (.goto (-52), 3) := by decide +kernel
theorem dX8_entryOfRow_73 : decode cX8_entryOfRow 73 = .ok (.iload 4, 2) := by decide +kernel
theorem dX8_entryOfRow_75 : decode cX8_entryOfRow 75 = .ok (.ireturn, 1) := by decide +kernel
set_option maxRecDepth 20000 in
theorem ggX8_takeDigit_X0_listed : GoodIn wsX8_takeDigit wsX0_listed := goodIn_r _ [8, 9, 48, 49, 50, 51, 52, 53, 54] (by decide +kernel) (by decide +kernel)
set_option maxRecDepth 20000 in
theorem gX8_takeDigit_X0_listed_n74 : GoodIn wsX8_takeDigit (wsX0_listed) := ggX8_takeDigit_X0_listed
set_option maxRecDepth 20000 in
theorem ggX8_takeDigit_X8_rowsBehind : GoodIn wsX8_takeDigit wsX8_rowsBehind := goodIn_r _ [14, 1, 15, 6, 16, 17, 18, 19, 20, 21, 22, 23, 24, 13, 25, 26, 27, 28, 29, 30, 31, 32, 33, 34, 35, 36, 37, 38, 39, 40, 41, 42, 43, 44, 45, 46, 47, 48, 49, 50, 51, 52, 53, 54] (by decide +kernel) (by decide +kernel)
set_option maxRecDepth 20000 in
theorem gX8_takeDigit_X8_rowsBehind : GoodIn wsX8_takeDigit (wsV RX8 77 RX8 yX8_rowsBehind wsX8_rowsBehind) := goodIn_app (goodIn_of _ (by decide +kernel)) ggX8_takeDigit_X8_rowsBehind
theorem dX8_takeDigit_0 : decode cX8_takeDigit 0 = .ok (.iconst 0, 1) := by decide +kernel
theorem dX8_takeDigit_1 : decode cX8_takeDigit 1 = .ok (.istore_n 2, 1) := by decide +kernel
theorem dX8_takeDigit_2 : decode cX8_takeDigit 2 = .ok (.iload_n 2, 1) := by decide +kernel
theorem dX8_takeDigit_3 : decode cX8_takeDigit 3 = .ok (.aload_n 0, 1) := by decide +kernel
theorem dX8_takeDigit_4 : decode cX8_takeDigit 4 = .ok (.getfield 22, 3) := by decide +kernel
theorem dX8_takeDigit_7 : decode cX8_takeDigit 7 = .ok (.getfield 71, 3) := by decide +kernel
theorem dX8_takeDigit_10 : decode cX8_takeDigit 10 = .ok (.if_icmp .ge 55, 3) := by decide +kernel
theorem dX8_takeDigit_13 : decode cX8_takeDigit 13 = .ok (.aload_n 0, 1) := by decide +kernel
theorem dX8_takeDigit_14 : decode cX8_takeDigit 14 = .ok (.iload_n 1, 1) := by decide +kernel
theorem dX8_takeDigit_15 : decode cX8_takeDigit 15 = .ok (.aload_n 0, 1) := by decide +kernel
theorem dX8_takeDigit_16 : decode cX8_takeDigit 16 = .ok (.getfield 52, 3) := by decide +kernel
theorem dX8_takeDigit_19 : decode cX8_takeDigit 19 = .ok (.aload_n 0, 1) := by decide +kernel
theorem dX8_takeDigit_20 : decode cX8_takeDigit 20 = .ok (.getfield 22, 3) := by decide +kernel
theorem dX8_takeDigit_23 : decode cX8_takeDigit 23 = .ok (.iload_n 2, 1) := by decide +kernel
theorem dX8_takeDigit_24 : decode cX8_takeDigit 24 = .ok (.invokevirtual 74, 3) := by decide +kernel
theorem dX8_takeDigit_27 : decode cX8_takeDigit 27 = .ok (.invokevirtual 77, 3) := by decide +kernel
theorem dX8_takeDigit_30 : decode cX8_takeDigit 30 = .ok (.lstore_n 3, 1) := by decide +kernel
theorem dX8_takeDigit_31 : decode cX8_takeDigit 31 = .ok (.aload_n 0, 1) := by decide +kernel
theorem dX8_takeDigit_32 : decode cX8_takeDigit 32 = .ok (.getfield 55, 3) := by decide +kernel
theorem dX8_takeDigit_35 : decode cX8_takeDigit 35 = .ok (.lload_n 3, 1) := by decide +kernel
theorem dX8_takeDigit_36 : decode cX8_takeDigit 36 = .ok (.lcmp, 1) := by decide +kernel
theorem dX8_takeDigit_37 : decode cX8_takeDigit 37 = .ok (.ifCond .ge 12, 3) := by decide +kernel
theorem dX8_takeDigit_40 : decode cX8_takeDigit 40 = .ok (.aload_n 0, 1) := by decide +kernel
theorem dX8_takeDigit_41 : decode cX8_takeDigit 41 = .ok (.getfield 22, 3) := by decide +kernel
theorem dX8_takeDigit_44 : decode cX8_takeDigit 44 = .ok (.iload_n 2, 1) := by decide +kernel
theorem dX8_takeDigit_45 : decode cX8_takeDigit 45 = .ok (.invokevirtual 74, 3) := by decide +kernel
theorem dX8_takeDigit_48 : decode cX8_takeDigit 48 = .ok (.ireturn, 1) := by decide +kernel
theorem dX8_takeDigit_49 : decode cX8_takeDigit 49 = .ok (.aload_n 0, 1) := by decide +kernel
theorem dX8_takeDigit_50 : decode cX8_takeDigit 50 = .ok (.dup, 1) := by decide +kernel
theorem dX8_takeDigit_51 : decode cX8_takeDigit 51 = .ok (.getfield 55, 3) := by decide +kernel
theorem dX8_takeDigit_54 : decode cX8_takeDigit 54 = .ok (.lload_n 3, 1) := by decide +kernel
theorem dX8_takeDigit_55 : decode cX8_takeDigit 55 = .ok (.lsub, 1) := by decide +kernel
theorem dX8_takeDigit_56 : decode cX8_takeDigit 56 = .ok (.putfield 55, 3) := by decide +kernel
theorem dX8_takeDigit_59 : decode cX8_takeDigit 59 = .ok (.iinc 2 1, 3) := by decide +kernel
theorem dX8_takeDigit_62 : decode cX8_takeDigit 62 = .ok (.goto (-60), 3) := by decide +kernel
theorem dX8_takeDigit_65 : decode cX8_takeDigit 65 = .ok (.ldc 59, 2) := by decide +kernel
theorem dX8_takeDigit_67 : decode cX8_takeDigit 67 = .ok (.ireturn, 1) := by decide +kernel
set_option maxRecDepth 20000 in
theorem ggX8_leastLength_X8_findBounds : GoodIn wsX8_leastLength wsX8_findBounds := goodIn_r _ [6, 7, 8, 9, 10, 11, 12, 13, 14, 15, 16, 17, 18, 19, 20, 21, 22, 23, 24, 25, 26, 27, 28, 29, 30, 31, 32, 33, 5, 34, 35, 36, 37, 38, 39, 40, 41, 42, 79, 80, 81, 82, 83, 84, 85, 86, 87, 88, 89, 90, 91, 92] (by decide +kernel) (by decide +kernel)
set_option maxRecDepth 20000 in
theorem gX8_leastLength_X8_findBounds : GoodIn wsX8_leastLength (wsV RX8 26 RX8 yX8_findBounds wsX8_findBounds) := goodIn_app (goodIn_of _ (by decide +kernel)) ggX8_leastLength_X8_findBounds
set_option maxRecDepth 20000 in
theorem ggX8_leastLength_X8_put : GoodIn wsX8_leastLength wsX8_put := goodIn_r _ [46, 47, 48, 49, 50, 5, 51, 52, 53, 54, 55, 8, 56, 57, 58, 59, 9, 79, 80, 81, 82, 83, 84, 85] (by decide +kernel) (by decide +kernel)
set_option maxRecDepth 20000 in
theorem gX8_leastLength_X8_put : GoodIn wsX8_leastLength (wsV RX8 45 RX8 yX8_put wsX8_put) := goodIn_app (goodIn_of _ (by decide +kernel)) ggX8_leastLength_X8_put
set_option maxRecDepth 20000 in
theorem ggX8_leastLength_X8_at : GoodIn wsX8_leastLength wsX8_at := goodIn_r _ [63, 47, 48, 49, 50, 5, 51, 52, 53, 54, 55, 8, 56, 57, 58, 59, 9, 79, 80, 81, 82, 83, 84, 85] (by decide +kernel) (by decide +kernel)
set_option maxRecDepth 20000 in
theorem gX8_leastLength_X8_at : GoodIn wsX8_leastLength (wsV RX8 49 RX8 yX8_at wsX8_at) := goodIn_app (goodIn_of _ (by decide +kernel)) ggX8_leastLength_X8_at
set_option maxRecDepth 20000 in
theorem ggX8_leastLength_X8_markBehind : GoodIn wsX8_leastLength wsX8_markBehind := goodIn_r _ [67, 56, 57, 58, 5, 59, 9, 52, 53, 54, 55, 8, 43, 44, 45, 46, 47, 48, 49, 50, 51, 60, 61, 62, 63, 68, 69, 70, 71, 7, 21, 15, 22, 23, 24, 72, 73, 74, 75, 76, 77, 78, 79, 80, 81, 82, 83, 84, 85, 86, 87, 88, 89, 90, 91, 92] (by decide +kernel) (by decide +kernel)
set_option maxRecDepth 20000 in
theorem gX8_leastLength_X8_markBehind : GoodIn wsX8_leastLength (wsV RX8 81 RX8 yX8_markBehind wsX8_markBehind) := goodIn_app (goodIn_of _ (by decide +kernel)) ggX8_leastLength_X8_markBehind
theorem dX8_leastLength_0 : decode cX8_leastLength 0 = .ok (.aload_n 0, 1) := by decide +kernel
theorem dX8_leastLength_1 : decode cX8_leastLength 1 = .ok (.iload_n 1, 1) := by decide +kernel
theorem dX8_leastLength_2 : decode cX8_leastLength 2 = .ok (.invokevirtual 26, 3) := by decide +kernel
theorem dX8_leastLength_5 : decode cX8_leastLength 5 = .ok (.aload_n 0, 1) := by decide +kernel
theorem dX8_leastLength_6 : decode cX8_leastLength 6 = .ok (.iconst 0, 1) := by decide +kernel
theorem dX8_leastLength_7 : decode cX8_leastLength 7 = .ok (.iload_n 1, 1) := by decide +kernel
theorem dX8_leastLength_8 : decode cX8_leastLength 8 = .ok (.lconst 1, 1) := by decide +kernel
theorem dX8_leastLength_9 : decode cX8_leastLength 9 = .ok (.invokevirtual 45, 3) := by decide +kernel
theorem dX8_leastLength_12 : decode cX8_leastLength 12 = .ok (.iconst 0, 1) := by decide +kernel
theorem dX8_leastLength_13 : decode cX8_leastLength 13 = .ok (.istore_n 2, 1) := by decide +kernel
theorem dX8_leastLength_14 : decode cX8_leastLength 14 = .ok (.iload_n 2, 1) := by decide +kernel
theorem dX8_leastLength_15 : decode cX8_leastLength 15 = .ok (.bipush 12, 2) := by decide +kernel
theorem dX8_leastLength_17 : decode cX8_leastLength 17 = .ok (.if_icmp .gt 27, 3) := by decide +kernel
theorem dX8_leastLength_20 : decode cX8_leastLength 20 = .ok (.aload_n 0, 1) := by decide +kernel
theorem dX8_leastLength_21 : decode cX8_leastLength 21 = .ok (.iload_n 2, 1) := by decide +kernel
theorem dX8_leastLength_22 : decode cX8_leastLength 22 = .ok (.iconst 0, 1) := by decide +kernel
theorem dX8_leastLength_23 : decode cX8_leastLength 23 = .ok (.invokevirtual 49, 3) := by decide +kernel
theorem dX8_leastLength_26 : decode cX8_leastLength 26 = .ok (.lconst 0, 1) := by decide +kernel
theorem dX8_leastLength_27 : decode cX8_leastLength 27 = .ok (.lcmp, 1) := by decide +kernel
theorem dX8_leastLength_28 : decode cX8_leastLength 28 = .ok (.ifCond .eq 5, 3) := by decide +kernel
theorem dX8_leastLength_31 : decode cX8_leastLength 31 = .ok (.iload_n 2, 1) := by decide +kernel
theorem dX8_leastLength_32 : decode cX8_leastLength 32 = .ok (.ireturn, 1) := by decide +kernel
theorem dX8_leastLength_33 : decode cX8_leastLength 33 = .ok (.aload_n 0, 1) := by decide +kernel
theorem dX8_leastLength_34 : decode cX8_leastLength 34 = .ok (.iload_n 2, 1) := by decide +kernel
theorem dX8_leastLength_35 : decode cX8_leastLength 35 = .ok (.invokevirtual 81, 3) := by decide +kernel
theorem dX8_leastLength_38 : decode cX8_leastLength 38 = .ok (.iinc 2 1, 3) := by decide +kernel
theorem dX8_leastLength_41 : decode cX8_leastLength 41 = .ok (.goto (-27), 3) := by decide +kernel
theorem dX8_leastLength_44 : decode cX8_leastLength 44 = .ok (.ldc 59, 2) := by decide +kernel
theorem dX8_leastLength_46 : decode cX8_leastLength 46 = .ok (.ireturn, 1) := by decide +kernel
set_option maxRecDepth 20000 in
theorem ggX8_markBehind_X8_highestAt : GoodIn wsX8_markBehind wsX8_highestAt := goodIn_r _ [5, 6, 42, 43, 44, 45, 46, 47, 48] (by decide +kernel) (by decide +kernel)
set_option maxRecDepth 20000 in
theorem gX8_markBehind_X8_highestAt : GoodIn wsX8_markBehind (wsV RX8 34 RX8 yX8_highestAt wsX8_highestAt) := goodIn_app (goodIn_of _ (by decide +kernel)) ggX8_markBehind_X8_highestAt
set_option maxRecDepth 20000 in
theorem ggX8_markBehind_X8_lowestAt : GoodIn wsX8_markBehind wsX8_lowestAt := goodIn_r _ [10, 11, 42, 43, 44, 45, 46, 47, 48] (by decide +kernel) (by decide +kernel)
set_option maxRecDepth 20000 in
theorem gX8_markBehind_X8_lowestAt : GoodIn wsX8_markBehind (wsV RX8 38 RX8 yX8_lowestAt wsX8_lowestAt) := goodIn_app (goodIn_of _ (by decide +kernel)) ggX8_markBehind_X8_lowestAt
set_option maxRecDepth 20000 in
theorem ggX8_markBehind_X8_put : GoodIn wsX8_markBehind wsX8_put := goodIn_r _ [15, 16, 17, 18, 19, 4, 20, 7, 8, 9, 10, 11, 1, 2, 3, 5, 6, 42, 43, 44, 45, 46, 47, 48] (by decide +kernel) (by decide +kernel)
set_option maxRecDepth 20000 in
theorem gX8_markBehind_X8_put : GoodIn wsX8_markBehind (wsV RX8 45 RX8 yX8_put wsX8_put) := goodIn_app (goodIn_of _ (by decide +kernel)) ggX8_markBehind_X8_put
set_option maxRecDepth 20000 in
theorem ggX8_markBehind_X8_at : GoodIn wsX8_markBehind wsX8_at := goodIn_r _ [24, 16, 17, 18, 19, 4, 20, 7, 8, 9, 10, 11, 1, 2, 3, 5, 6, 42, 43, 44, 45, 46, 47, 48] (by decide +kernel) (by decide +kernel)
set_option maxRecDepth 20000 in
theorem gX8_markBehind_X8_at : GoodIn wsX8_markBehind (wsV RX8 49 RX8 yX8_at wsX8_at) := goodIn_app (goodIn_of _ (by decide +kernel)) ggX8_markBehind_X8_at
set_option maxRecDepth 20000 in
theorem ggX8_markBehind_X8_markFrom : GoodIn wsX8_markBehind wsX8_markFrom := goodIn_r _ [28, 29, 30, 31, 32, 33, 34, 35, 36, 37, 38, 39, 40, 41, 12, 13, 14, 4, 15, 16, 17, 18, 19, 20, 7, 8, 9, 10, 11, 1, 2, 3, 5, 6, 42, 43, 44, 45, 46, 47, 48, 49, 50, 51, 52, 53, 54, 55] (by decide +kernel) (by decide +kernel)
set_option maxRecDepth 20000 in
theorem gX8_markBehind_X8_markFrom : GoodIn wsX8_markBehind (wsV RX8 84 RX8 yX8_markFrom wsX8_markFrom) := goodIn_app (goodIn_of _ (by decide +kernel)) ggX8_markBehind_X8_markFrom
theorem dX8_markBehind_0 : decode cX8_markBehind 0 = .ok (.aload_n 0, 1) := by decide +kernel
theorem dX8_markBehind_1 : decode cX8_markBehind 1 = .ok (.iload_n 1, 1) := by decide +kernel
theorem dX8_markBehind_2 : decode cX8_markBehind 2 = .ok (.iconst 1, 1) := by decide +kernel
theorem dX8_markBehind_3 : decode cX8_markBehind 3 = .ok (.iadd, 1) := by decide +kernel
theorem dX8_markBehind_4 : decode cX8_markBehind 4 = .ok (.invokevirtual 34, 3) := by decide +kernel
theorem dX8_markBehind_7 : decode cX8_markBehind 7 = .ok (.istore_n 2, 1) := by decide +kernel
theorem dX8_markBehind_8 : decode cX8_markBehind 8 = .ok (.aload_n 0, 1) := by decide +kernel
theorem dX8_markBehind_9 : decode cX8_markBehind 9 = .ok (.iload_n 1, 1) := by decide +kernel
theorem dX8_markBehind_10 : decode cX8_markBehind 10 = .ok (.iconst 1, 1) := by decide +kernel
theorem dX8_markBehind_11 : decode cX8_markBehind 11 = .ok (.iadd, 1) := by decide +kernel
theorem dX8_markBehind_12 : decode cX8_markBehind 12 = .ok (.invokevirtual 38, 3) := by decide +kernel
theorem dX8_markBehind_15 : decode cX8_markBehind 15 = .ok (.istore_n 3, 1) := by decide +kernel
theorem dX8_markBehind_16 : decode cX8_markBehind 16 = .ok (.iload_n 3, 1) := by decide +kernel
theorem dX8_markBehind_17 : decode cX8_markBehind 17 = .ok (.iload_n 2, 1) := by decide +kernel
theorem dX8_markBehind_18 : decode cX8_markBehind 18 = .ok (.if_icmp .gt 18, 3) := by decide +kernel
theorem dX8_markBehind_21 : decode cX8_markBehind 21 = .ok (.aload_n 0, 1) := by decide +kernel
theorem dX8_markBehind_22 : decode cX8_markBehind 22 = .ok (.iload_n 1, 1) := by decide +kernel
theorem dX8_markBehind_23 : decode cX8_markBehind 23 = .ok (.iconst 1, 1) := by decide +kernel
theorem dX8_markBehind_24 : decode cX8_markBehind 24 = .ok (.iadd, 1) := by decide +kernel
theorem dX8_markBehind_25 : decode cX8_markBehind 25 = .ok (.iload_n 3, 1) := by decide +kernel
theorem dX8_markBehind_26 : decode cX8_markBehind 26 = .ok (.lconst 0, 1) := by decide +kernel
theorem dX8_markBehind_27 : decode cX8_markBehind 27 = .ok (.invokevirtual 45, 3) := by decide +kernel
theorem dX8_markBehind_30 : decode cX8_markBehind 30 = .ok (.iinc 3 1, 3) := by decide +kernel
theorem dX8_markBehind_33 : decode cX8_markBehind 33 = .ok (.goto (-17), 3) := by decide +kernel
theorem dX8_markBehind_36 : decode cX8_markBehind 36 = .ok (.aload_n 0, 1) := by decide +kernel
theorem dX8_markBehind_37 : decode cX8_markBehind 37 = .ok (.iload_n 1, 1) := by decide +kernel
theorem dX8_markBehind_38 : decode cX8_markBehind 38 = .ok (.invokevirtual 34, 3) := by decide +kernel
theorem dX8_markBehind_41 : decode cX8_markBehind 41 = .ok (.istore_n 3, 1) := by decide +kernel
theorem dX8_markBehind_42 : decode cX8_markBehind 42 = .ok (.aload_n 0, 1) := by decide +kernel
theorem dX8_markBehind_43 : decode cX8_markBehind 43 = .ok (.iload_n 1, 1) := by decide +kernel
theorem dX8_markBehind_44 : decode cX8_markBehind 44 = .ok (.invokevirtual 38, 3) := by decide +kernel
theorem dX8_markBehind_47 : decode cX8_markBehind 47 = .ok (.istore 4, 2) := by decide +kernel
theorem dX8_markBehind_49 : decode cX8_markBehind 49 = .ok (.iload 4, 2) := by decide +kernel
theorem dX8_markBehind_51 : decode cX8_markBehind 51 = .ok (.iload_n 3, 1) := by decide +kernel
theorem dX8_markBehind_52 : decode cX8_markBehind 52 = .ok (.if_icmp .gt 28, 3) := by decide +kernel
theorem dX8_markBehind_55 : decode cX8_markBehind 55 = .ok (.aload_n 0, 1) := by decide +kernel
theorem dX8_markBehind_56 : decode cX8_markBehind 56 = .ok (.iload_n 1, 1) := by decide +kernel
theorem dX8_markBehind_57 : decode cX8_markBehind 57 = .ok (.iload 4, 2) := by decide +kernel
theorem dX8_markBehind_59 : decode cX8_markBehind 59 = .ok (.invokevirtual 49, 3) := by decide +kernel
theorem dX8_markBehind_62 : decode cX8_markBehind 62 = .ok (.lconst 0, 1) := by decide +kernel
theorem dX8_markBehind_63 : decode cX8_markBehind 63 = .ok (.lcmp, 1) := by decide +kernel
theorem dX8_markBehind_64 : decode cX8_markBehind 64 = .ok (.ifCond .eq 10, 3) := by decide +kernel
theorem dX8_markBehind_67 : decode cX8_markBehind 67 = .ok (.aload_n 0, 1) := by decide +kernel
theorem dX8_markBehind_68 : decode cX8_markBehind 68 = .ok (.iload_n 1, 1) := by decide +kernel
theorem dX8_markBehind_69 : decode cX8_markBehind 69 = .ok (.iload 4, 2) := by decide +kernel
theorem dX8_markBehind_71 : decode cX8_markBehind 71 = .ok (.invokevirtual 84, 3) := by decide +kernel
theorem dX8_markBehind_74 : decode cX8_markBehind 74 = .ok (.iinc 4 1, 3) := by decide +kernel
theorem dX8_markBehind_77 : decode cX8_markBehind 77 = .ok (.goto (-28), 3) := by decide +kernel
theorem dX8_markBehind_80 : decode cX8_markBehind 80 = .ok (.return_, 1) := by decide +kernel
set_option maxRecDepth 20000 in
theorem ggX8_markFrom_X0_listed : GoodIn wsX8_markFrom wsX0_listed := goodIn_r _ [5, 6, 41, 42, 43, 44, 45, 46, 47] (by decide +kernel) (by decide +kernel)
set_option maxRecDepth 20000 in
theorem gX8_markFrom_X0_listed_n74 : GoodIn wsX8_markFrom (wsX0_listed) := ggX8_markFrom_X0_listed
set_option maxRecDepth 20000 in
theorem ggX8_markFrom_X0_divides : GoodIn wsX8_markFrom wsX0_divides := goodIn_r _ [9, 10, 41, 42, 43, 44, 45, 46, 47] (by decide +kernel) (by decide +kernel)
set_option maxRecDepth 20000 in
theorem gX8_markFrom_X0_divides_n88 : GoodIn wsX8_markFrom (wsX0_divides) := ggX8_markFrom_X0_divides
set_option maxRecDepth 20000 in
theorem ggX8_markFrom_X0_quotient : GoodIn wsX8_markFrom wsX0_quotient := goodIn_r _ [13, 10, 41, 42, 43, 44, 45, 46, 47] (by decide +kernel) (by decide +kernel)
set_option maxRecDepth 20000 in
theorem gX8_markFrom_X0_quotient_n68 : GoodIn wsX8_markFrom (wsX0_quotient) := ggX8_markFrom_X0_quotient
set_option maxRecDepth 20000 in
theorem ggX8_markFrom_X8_put : GoodIn wsX8_markFrom wsX8_put := goodIn_r _ [18, 19, 20, 21, 22, 17, 23, 24, 25, 26, 27, 28, 29, 30, 31, 32, 33, 34, 35, 36, 37, 38, 39, 40] (by decide +kernel) (by decide +kernel)
set_option maxRecDepth 20000 in
theorem gX8_markFrom_X8_put : GoodIn wsX8_markFrom (wsV RX8 45 RX8 yX8_put wsX8_put) := goodIn_app (goodIn_of _ (by decide +kernel)) ggX8_markFrom_X8_put
theorem dX8_markFrom_0 : decode cX8_markFrom 0 = .ok (.iconst 0, 1) := by decide +kernel
theorem dX8_markFrom_1 : decode cX8_markFrom 1 = .ok (.istore_n 3, 1) := by decide +kernel
theorem dX8_markFrom_2 : decode cX8_markFrom 2 = .ok (.iload_n 3, 1) := by decide +kernel
theorem dX8_markFrom_3 : decode cX8_markFrom 3 = .ok (.aload_n 0, 1) := by decide +kernel
theorem dX8_markFrom_4 : decode cX8_markFrom 4 = .ok (.getfield 22, 3) := by decide +kernel
theorem dX8_markFrom_7 : decode cX8_markFrom 7 = .ok (.getfield 71, 3) := by decide +kernel
theorem dX8_markFrom_10 : decode cX8_markFrom 10 = .ok (.if_icmp .ge 58, 3) := by decide +kernel
theorem dX8_markFrom_13 : decode cX8_markFrom 13 = .ok (.aload_n 0, 1) := by decide +kernel
theorem dX8_markFrom_14 : decode cX8_markFrom 14 = .ok (.getfield 22, 3) := by decide +kernel
theorem dX8_markFrom_17 : decode cX8_markFrom 17 = .ok (.getfield 63, 3) := by decide +kernel
theorem dX8_markFrom_20 : decode cX8_markFrom 20 = .ok (.iload_n 2, 1) := by decide +kernel
theorem dX8_markFrom_21 : decode cX8_markFrom 21 = .ok (.imul, 1) := by decide +kernel
theorem dX8_markFrom_22 : decode cX8_markFrom 22 = .ok (.aload_n 0, 1) := by decide +kernel
theorem dX8_markFrom_23 : decode cX8_markFrom 23 = .ok (.getfield 22, 3) := by decide +kernel
theorem dX8_markFrom_26 : decode cX8_markFrom 26 = .ok (.iload_n 3, 1) := by decide +kernel
theorem dX8_markFrom_27 : decode cX8_markFrom 27 = .ok (.invokevirtual 74, 3) := by decide +kernel
theorem dX8_markFrom_30 : decode cX8_markFrom 30 = .ok (.isub, 1) := by decide +kernel
theorem dX8_markFrom_31 : decode cX8_markFrom 31 = .ok (.istore 4, 2) := by decide +kernel
theorem dX8_markFrom_33 : decode cX8_markFrom 33 = .ok (.aload_n 0, 1) := by decide +kernel
theorem dX8_markFrom_34 : decode cX8_markFrom 34 = .ok (.getfield 22, 3) := by decide +kernel
theorem dX8_markFrom_37 : decode cX8_markFrom 37 = .ok (.iload 4, 2) := by decide +kernel
theorem dX8_markFrom_39 : decode cX8_markFrom 39 = .ok (.invokevirtual 88, 3) := by decide +kernel
theorem dX8_markFrom_42 : decode cX8_markFrom 42 = .ok (.ifCond .eq 20, 3) := by decide +kernel
theorem dX8_markFrom_45 : decode cX8_markFrom 45 = .ok (.aload_n 0, 1) := by decide +kernel
theorem dX8_markFrom_46 : decode cX8_markFrom 46 = .ok (.iload_n 1, 1) := by decide +kernel
theorem dX8_markFrom_47 : decode cX8_markFrom 47 = .ok (.iconst 1, 1) := by decide +kernel
theorem dX8_markFrom_48 : decode cX8_markFrom 48 = .ok (.iadd, 1) := by decide +kernel
theorem dX8_markFrom_49 : decode cX8_markFrom 49 = .ok (.aload_n 0, 1) := by decide +kernel
theorem dX8_markFrom_50 : decode cX8_markFrom 50 = .ok (.getfield 22, 3) := by decide +kernel
theorem dX8_markFrom_53 : decode cX8_markFrom 53 = .ok (.iload 4, 2) := by decide +kernel
theorem dX8_markFrom_55 : decode cX8_markFrom 55 = .ok (.invokevirtual 68, 3) := by decide +kernel
theorem dX8_markFrom_58 : decode cX8_markFrom 58 = .ok (.lconst 1, 1) := by decide +kernel
theorem dX8_markFrom_59 : decode cX8_markFrom 59 = .ok (.invokevirtual 45, 3) := by decide +kernel
theorem dX8_markFrom_62 : decode cX8_markFrom 62 = .ok (.iinc 3 1, 3) := by decide +kernel
theorem dX8_markFrom_65 : decode cX8_markFrom 65 = .ok (.goto (-63), 3) := by decide +kernel
theorem dX8_markFrom_68 : decode cX8_markFrom 68 = .ok (.return_, 1) := by decide +kernel
set_option maxRecDepth 20000 in
theorem ggX8_rowsFrom_X0_listed : GoodIn wsX8_rowsFrom wsX0_listed := goodIn_r _ [5, 6, 45, 46, 47, 48, 49, 50, 51] (by decide +kernel) (by decide +kernel)
set_option maxRecDepth 20000 in
theorem gX8_rowsFrom_X0_listed_n74 : GoodIn wsX8_rowsFrom (wsX0_listed) := ggX8_rowsFrom_X0_listed
set_option maxRecDepth 20000 in
theorem ggX8_rowsFrom_X8_rowsBehind : GoodIn wsX8_rowsFrom wsX8_rowsBehind := goodIn_r _ [11, 1, 12, 3, 13, 14, 15, 16, 17, 18, 19, 20, 21, 10, 22, 23, 24, 25, 26, 27, 28, 29, 30, 31, 32, 33, 34, 35, 36, 37, 38, 39, 40, 41, 42, 43, 44, 45, 46, 47, 48, 49, 50, 51] (by decide +kernel) (by decide +kernel)
set_option maxRecDepth 20000 in
theorem gX8_rowsFrom_X8_rowsBehind : GoodIn wsX8_rowsFrom (wsV RX8 77 RX8 yX8_rowsBehind wsX8_rowsBehind) := goodIn_app (goodIn_of _ (by decide +kernel)) ggX8_rowsFrom_X8_rowsBehind
theorem dX8_rowsFrom_0 : decode cX8_rowsFrom 0 = .ok (.lconst 0, 1) := by decide +kernel
theorem dX8_rowsFrom_1 : decode cX8_rowsFrom 1 = .ok (.lstore_n 3, 1) := by decide +kernel
theorem dX8_rowsFrom_2 : decode cX8_rowsFrom 2 = .ok (.iconst 0, 1) := by decide +kernel
theorem dX8_rowsFrom_3 : decode cX8_rowsFrom 3 = .ok (.istore 5, 2) := by decide +kernel
theorem dX8_rowsFrom_5 : decode cX8_rowsFrom 5 = .ok (.iload 5, 2) := by decide +kernel
theorem dX8_rowsFrom_7 : decode cX8_rowsFrom 7 = .ok (.aload_n 0, 1) := by decide +kernel
theorem dX8_rowsFrom_8 : decode cX8_rowsFrom 8 = .ok (.getfield 22, 3) := by decide +kernel
theorem dX8_rowsFrom_11 : decode cX8_rowsFrom 11 = .ok (.getfield 71, 3) := by decide +kernel
theorem dX8_rowsFrom_14 : decode cX8_rowsFrom 14 = .ok (.if_icmp .ge 27, 3) := by decide +kernel
theorem dX8_rowsFrom_17 : decode cX8_rowsFrom 17 = .ok (.lload_n 3, 1) := by decide +kernel
theorem dX8_rowsFrom_18 : decode cX8_rowsFrom 18 = .ok (.aload_n 0, 1) := by decide +kernel
theorem dX8_rowsFrom_19 : decode cX8_rowsFrom 19 = .ok (.iload_n 1, 1) := by decide +kernel
theorem dX8_rowsFrom_20 : decode cX8_rowsFrom 20 = .ok (.iload_n 2, 1) := by decide +kernel
theorem dX8_rowsFrom_21 : decode cX8_rowsFrom 21 = .ok (.aload_n 0, 1) := by decide +kernel
theorem dX8_rowsFrom_22 : decode cX8_rowsFrom 22 = .ok (.getfield 22, 3) := by decide +kernel
theorem dX8_rowsFrom_25 : decode cX8_rowsFrom 25 = .ok (.iload 5, 2) := by decide +kernel
theorem dX8_rowsFrom_27 : decode cX8_rowsFrom 27 = .ok (.invokevirtual 74, 3) := by decide +kernel
theorem dX8_rowsFrom_30 : decode cX8_rowsFrom 30 = .ok (.invokevirtual 77, 3) := by decide +kernel
theorem dX8_rowsFrom_33 : decode cX8_rowsFrom 33 = .ok (.ladd, 1) := by decide +kernel
theorem dX8_rowsFrom_34 : decode cX8_rowsFrom 34 = .ok (.lstore_n 3, 1) := by decide +kernel
theorem dX8_rowsFrom_35 : decode cX8_rowsFrom 35 = .ok (.iinc 5 1, 3) := by decide +kernel
theorem dX8_rowsFrom_38 : decode cX8_rowsFrom 38 = .ok (.goto (-33), 3) := by decide +kernel
theorem dX8_rowsFrom_41 : decode cX8_rowsFrom 41 = .ok (.lload_n 3, 1) := by decide +kernel
theorem dX8_rowsFrom_42 : decode cX8_rowsFrom 42 = .ok (.lreturn, 1) := by decide +kernel
set_option maxRecDepth 20000 in
theorem ggX8_rowsBehind_X0_divides : GoodIn wsX8_rowsBehind wsX0_divides := goodIn_r _ [5, 6, 37, 38, 39, 40, 41, 42, 43] (by decide +kernel) (by decide +kernel)
set_option maxRecDepth 20000 in
theorem gX8_rowsBehind_X0_divides_n88 : GoodIn wsX8_rowsBehind (wsX0_divides) := ggX8_rowsBehind_X0_divides
set_option maxRecDepth 20000 in
theorem ggX8_rowsBehind_X0_quotient : GoodIn wsX8_rowsBehind wsX0_quotient := goodIn_r _ [9, 6, 37, 38, 39, 40, 41, 42, 43] (by decide +kernel) (by decide +kernel)
set_option maxRecDepth 20000 in
theorem gX8_rowsBehind_X0_quotient_n68 : GoodIn wsX8_rowsBehind (wsX0_quotient) := ggX8_rowsBehind_X0_quotient
set_option maxRecDepth 20000 in
theorem ggX8_rowsBehind_X8_at : GoodIn wsX8_rowsBehind wsX8_at := goodIn_r _ [14, 15, 16, 17, 18, 13, 19, 20, 21, 22, 23, 24, 25, 26, 27, 28, 29, 30, 31, 32, 33, 34, 35, 36] (by decide +kernel) (by decide +kernel)
set_option maxRecDepth 20000 in
theorem gX8_rowsBehind_X8_at : GoodIn wsX8_rowsBehind (wsV RX8 49 RX8 yX8_at wsX8_at) := goodIn_app (goodIn_of _ (by decide +kernel)) ggX8_rowsBehind_X8_at
theorem dX8_rowsBehind_0 : decode cX8_rowsBehind 0 = .ok (.aload_n 0, 1) := by decide +kernel
theorem dX8_rowsBehind_1 : decode cX8_rowsBehind 1 = .ok (.getfield 22, 3) := by decide +kernel
theorem dX8_rowsBehind_4 : decode cX8_rowsBehind 4 = .ok (.getfield 63, 3) := by decide +kernel
theorem dX8_rowsBehind_7 : decode cX8_rowsBehind 7 = .ok (.iload_n 2, 1) := by decide +kernel
theorem dX8_rowsBehind_8 : decode cX8_rowsBehind 8 = .ok (.imul, 1) := by decide +kernel
theorem dX8_rowsBehind_9 : decode cX8_rowsBehind 9 = .ok (.iload_n 3, 1) := by decide +kernel
theorem dX8_rowsBehind_10 : decode cX8_rowsBehind 10 = .ok (.isub, 1) := by decide +kernel
theorem dX8_rowsBehind_11 : decode cX8_rowsBehind 11 = .ok (.istore 4, 2) := by decide +kernel
theorem dX8_rowsBehind_13 : decode cX8_rowsBehind 13 = .ok (.aload_n 0, 1) := by decide +kernel
theorem dX8_rowsBehind_14 : decode cX8_rowsBehind 14 = .ok (.getfield 22, 3) := by decide +kernel
theorem dX8_rowsBehind_17 : decode cX8_rowsBehind 17 = .ok (.iload 4, 2) := by decide +kernel
theorem dX8_rowsBehind_19 : decode cX8_rowsBehind 19 = .ok (.invokevirtual 88, 3) := by decide +kernel
theorem dX8_rowsBehind_22 : decode cX8_rowsBehind 22 = .ok (.ifCond .eq 22, 3) := by decide +kernel
theorem dX8_rowsBehind_25 : decode cX8_rowsBehind 25 = .ok (.aload_n 0, 1) := by decide +kernel
theorem dX8_rowsBehind_26 : decode cX8_rowsBehind 26 = .ok (.iload_n 1, 1) := by decide +kernel
theorem dX8_rowsBehind_27 : decode cX8_rowsBehind 27 = .ok (.iconst 1, 1) := by decide +kernel
theorem dX8_rowsBehind_28 : decode cX8_rowsBehind 28 = .ok (.iadd, 1) := by decide +kernel
theorem dX8_rowsBehind_29 : decode cX8_rowsBehind 29 = .ok (.aload_n 0, 1) := by decide +kernel
theorem dX8_rowsBehind_30 : decode cX8_rowsBehind 30 = .ok (.getfield 22, 3) := by decide +kernel
theorem dX8_rowsBehind_33 : decode cX8_rowsBehind 33 = .ok (.iload 4, 2) := by decide +kernel
theorem dX8_rowsBehind_35 : decode cX8_rowsBehind 35 = .ok (.invokevirtual 68, 3) := by decide +kernel
theorem dX8_rowsBehind_38 : decode cX8_rowsBehind 38 = .ok (.invokevirtual 49, 3) := by decide +kernel
theorem dX8_rowsBehind_41 : decode cX8_rowsBehind 41 = .ok (.goto 4, 3) := by decide +kernel
theorem dX8_rowsBehind_44 : decode cX8_rowsBehind 44 = .ok (.lconst 0, 1) := by decide +kernel
theorem dX8_rowsBehind_45 : decode cX8_rowsBehind 45 = .ok (.lreturn, 1) := by decide +kernel
set_option maxRecDepth 20000 in
theorem ggX8_findBounds_X0_leastDigit : GoodIn wsX8_findBounds wsX0_leastDigit := goodIn_r _ [11, 12, 13, 5, 6, 7, 14, 15, 16, 9, 17, 18, 45, 46, 47, 48, 49, 50, 51] (by decide +kernel) (by decide +kernel)
set_option maxRecDepth 20000 in
theorem gX8_findBounds_X0_leastDigit_n92 : GoodIn wsX8_findBounds (wsX0_leastDigit) := ggX8_findBounds_X0_leastDigit
set_option maxRecDepth 20000 in
theorem ggX8_findBounds_X0_greatestDigit : GoodIn wsX8_findBounds wsX0_greatestDigit := goodIn_r _ [21, 12, 22, 23, 6, 24, 14, 15, 16, 9, 17, 18, 45, 46, 47, 48, 49, 50, 51] (by decide +kernel) (by decide +kernel)
set_option maxRecDepth 20000 in
theorem gX8_findBounds_X0_greatestDigit_n96 : GoodIn wsX8_findBounds (wsX0_greatestDigit) := ggX8_findBounds_X0_greatestDigit
set_option maxRecDepth 20000 in
theorem ggX8_findBounds_X8_quotientAbove : GoodIn wsX8_findBounds wsX8_quotientAbove := goodIn_r _ [29, 1, 30, 31, 32, 33, 38, 39, 40, 41, 42, 43, 44, 45, 46, 47, 48, 49, 50, 51] (by decide +kernel) (by decide +kernel)
set_option maxRecDepth 20000 in
theorem gX8_findBounds_X8_quotientAbove : GoodIn wsX8_findBounds (wsV RX8 102 RX8 yX8_quotientAbove wsX8_quotientAbove) := goodIn_app (goodIn_of _ (by decide +kernel)) ggX8_findBounds_X8_quotientAbove
set_option maxRecDepth 20000 in
theorem ggX8_findBounds_X8_quotientBelow : GoodIn wsX8_findBounds wsX8_quotientBelow := goodIn_r _ [37, 1, 30, 31, 32, 33, 38, 39, 40, 41, 42, 43, 44, 45, 46, 47, 48, 49, 50, 51] (by decide +kernel) (by decide +kernel)
set_option maxRecDepth 20000 in
theorem gX8_findBounds_X8_quotientBelow : GoodIn wsX8_findBounds (wsV RX8 105 RX8 yX8_quotientBelow wsX8_quotientBelow) := goodIn_app (goodIn_of _ (by decide +kernel)) ggX8_findBounds_X8_quotientBelow
theorem dX8_findBounds_0 : decode cX8_findBounds 0 = .ok (.aload_n 0, 1) := by decide +kernel
theorem dX8_findBounds_1 : decode cX8_findBounds 1 = .ok (.getfield 22, 3) := by decide +kernel
theorem dX8_findBounds_4 : decode cX8_findBounds 4 = .ok (.invokevirtual 92, 3) := by decide +kernel
theorem dX8_findBounds_7 : decode cX8_findBounds 7 = .ok (.istore_n 2, 1) := by decide +kernel
theorem dX8_findBounds_8 : decode cX8_findBounds 8 = .ok (.aload_n 0, 1) := by decide +kernel
theorem dX8_findBounds_9 : decode cX8_findBounds 9 = .ok (.getfield 22, 3) := by decide +kernel
theorem dX8_findBounds_12 : decode cX8_findBounds 12 = .ok (.invokevirtual 96, 3) := by decide +kernel
theorem dX8_findBounds_15 : decode cX8_findBounds 15 = .ok (.istore_n 3, 1) := by decide +kernel
theorem dX8_findBounds_16 : decode cX8_findBounds 16 = .ok (.aload_n 0, 1) := by decide +kernel
theorem dX8_findBounds_17 : decode cX8_findBounds 17 = .ok (.getfield 9, 3) := by decide +kernel
theorem dX8_findBounds_20 : decode cX8_findBounds 20 = .ok (.iconst 0, 1) := by decide +kernel
theorem dX8_findBounds_21 : decode cX8_findBounds 21 = .ok (.iload_n 1, 1) := by decide +kernel
theorem dX8_findBounds_22 : decode cX8_findBounds 22 = .ok (.iastore, 1) := by decide +kernel
theorem dX8_findBounds_23 : decode cX8_findBounds 23 = .ok (.aload_n 0, 1) := by decide +kernel
theorem dX8_findBounds_24 : decode cX8_findBounds 24 = .ok (.getfield 15, 3) := by decide +kernel
theorem dX8_findBounds_27 : decode cX8_findBounds 27 = .ok (.iconst 0, 1) := by decide +kernel
theorem dX8_findBounds_28 : decode cX8_findBounds 28 = .ok (.iload_n 1, 1) := by decide +kernel
theorem dX8_findBounds_29 : decode cX8_findBounds 29 = .ok (.iastore, 1) := by decide +kernel
theorem dX8_findBounds_30 : decode cX8_findBounds 30 = .ok (.iconst 0, 1) := by decide +kernel
theorem dX8_findBounds_31 : decode cX8_findBounds 31 = .ok (.istore 4, 2) := by decide +kernel
theorem dX8_findBounds_33 : decode cX8_findBounds 33 = .ok (.iload 4, 2) := by decide +kernel
theorem dX8_findBounds_35 : decode cX8_findBounds 35 = .ok (.iconst 1, 1) := by decide +kernel
theorem dX8_findBounds_36 : decode cX8_findBounds 36 = .ok (.iadd, 1) := by decide +kernel
theorem dX8_findBounds_37 : decode cX8_findBounds 37 = .ok (.aload_n 0, 1) := by decide +kernel
theorem dX8_findBounds_38 : decode cX8_findBounds 38 = .ok (.getfield 9, 3) := by decide +kernel
theorem dX8_findBounds_41 : decode cX8_findBounds 41 = .ok (.arraylength, 1) := by decide +kernel
theorem dX8_findBounds_42 : decode cX8_findBounds 42 = .ok (.if_icmp .ge 137, 3) := by decide +kernel
theorem dX8_findBounds_45 : decode cX8_findBounds 45 = .ok (.iload 4, 2) := by decide +kernel
theorem dX8_findBounds_47 : decode cX8_findBounds 47 = .ok (.iconst 1, 1) := by decide +kernel
theorem dX8_findBounds_48 : decode cX8_findBounds 48 = .ok (.iadd, 1) := by decide +kernel
theorem dX8_findBounds_49 : decode cX8_findBounds 49 = .ok (.aload_n 0, 1) := by decide +kernel
theorem dX8_findBounds_50 : decode cX8_findBounds 50 = .ok (.getfield 15, 3) := by decide +kernel
theorem dX8_findBounds_53 : decode cX8_findBounds 53 = .ok (.arraylength, 1) := by decide +kernel
theorem dX8_findBounds_54 : decode cX8_findBounds 54 = .ok (.if_icmp .ge 125, 3) := by decide +kernel
theorem dX8_findBounds_57 : decode cX8_findBounds 57 = .ok (.aload_n 0, 1) := by decide +kernel
theorem dX8_findBounds_58 : decode cX8_findBounds 58 = .ok (.getfield 22, 3) := by decide +kernel
theorem dX8_findBounds_61 : decode cX8_findBounds 61 = .ok (.getfield 63, 3) := by decide +kernel
theorem dX8_findBounds_64 : decode cX8_findBounds 64 = .ok (.aload_n 0, 1) := by decide +kernel
theorem dX8_findBounds_65 : decode cX8_findBounds 65 = .ok (.getfield 9, 3) := by decide +kernel
theorem dX8_findBounds_68 : decode cX8_findBounds 68 = .ok (.iload 4, 2) := by decide +kernel
theorem dX8_findBounds_70 : decode cX8_findBounds 70 = .ok (.iaload, 1) := by decide +kernel
theorem dX8_findBounds_71 : decode cX8_findBounds 71 = .ok (.imul, 1) := by decide +kernel
theorem dX8_findBounds_72 : decode cX8_findBounds 72 = .ok (.iload_n 3, 1) := by decide +kernel
theorem dX8_findBounds_73 : decode cX8_findBounds 73 = .ok (.isub, 1) := by decide +kernel
theorem dX8_findBounds_74 : decode cX8_findBounds 74 = .ok (.istore 5, 2) := by decide +kernel
theorem dX8_findBounds_76 : decode cX8_findBounds 76 = .ok (.aload_n 0, 1) := by decide +kernel
theorem dX8_findBounds_77 : decode cX8_findBounds 77 = .ok (.getfield 22, 3) := by decide +kernel
theorem dX8_findBounds_80 : decode cX8_findBounds 80 = .ok (.getfield 63, 3) := by decide +kernel
theorem dX8_findBounds_83 : decode cX8_findBounds 83 = .ok (.aload_n 0, 1) := by decide +kernel
theorem dX8_findBounds_84 : decode cX8_findBounds 84 = .ok (.getfield 15, 3) := by decide +kernel
theorem dX8_findBounds_87 : decode cX8_findBounds 87 = .ok (.iload 4, 2) := by decide +kernel
theorem dX8_findBounds_89 : decode cX8_findBounds 89 = .ok (.iaload, 1) := by decide +kernel
theorem dX8_findBounds_90 : decode cX8_findBounds 90 = .ok (.imul, 1) := by decide +kernel
theorem dX8_findBounds_91 : decode cX8_findBounds 91 = .ok (.iload_n 2, 1) := by decide +kernel
theorem dX8_findBounds_92 : decode cX8_findBounds 92 = .ok (.isub, 1) := by decide +kernel
theorem dX8_findBounds_93 : decode cX8_findBounds 93 = .ok (.istore 6, 2) := by decide +kernel
theorem dX8_findBounds_95 : decode cX8_findBounds 95 = .ok (.aload_n 0, 1) := by decide +kernel
theorem dX8_findBounds_96 : decode cX8_findBounds 96 = .ok (.aload_n 0, 1) := by decide +kernel
theorem dX8_findBounds_97 : decode cX8_findBounds 97 = .ok (.getfield 22, 3) := by decide +kernel
theorem dX8_findBounds_100 : decode cX8_findBounds 100 = .ok (.getfield 99, 3) := by decide +kernel
theorem dX8_findBounds_103 : decode cX8_findBounds 103 = .ok (.ifCond .le 8, 3) := by decide +kernel
theorem dX8_findBounds_106 : decode cX8_findBounds 106 = .ok (.iload 5, 2) := by decide +kernel
theorem dX8_findBounds_108 : decode cX8_findBounds 108 = .ok (.goto 5, 3) := by decide +kernel
theorem dX8_findBounds_111 : decode cX8_findBounds 111 = .ok (.iload 6, 2) := by decide +kernel
theorem dX8_findBounds_113 : decode cX8_findBounds 113 = .ok (.invokevirtual 102, 3) := by decide +kernel
theorem dX8_findBounds_116 : decode cX8_findBounds 116 = .ok (.istore 7, 2) := by decide +kernel
theorem dX8_findBounds_118 : decode cX8_findBounds 118 = .ok (.aload_n 0, 1) := by decide +kernel
theorem dX8_findBounds_119 : decode cX8_findBounds 119 = .ok (.aload_n 0, 1) := by decide +kernel
theorem dX8_findBounds_120 : decode cX8_findBounds 120 = .ok (.getfield 22, 3) := by decide +kernel
theorem dX8_findBounds_123 : decode cX8_findBounds 123 = .ok (.getfield 99, 3) := by decide +kernel
theorem dX8_findBounds_126 : decode cX8_findBounds 126 = .ok (.ifCond .le 8, 3) := by decide +kernel
theorem dX8_findBounds_129 : decode cX8_findBounds 129 = .ok (.iload 6, 2) := by decide +kernel
theorem dX8_findBounds_131 : decode cX8_findBounds 131 = .ok (.goto 5, 3) := by decide +kernel
theorem dX8_findBounds_134 : decode cX8_findBounds 134 = .ok (.iload 5, 2) := by decide +kernel
theorem dX8_findBounds_136 : decode cX8_findBounds 136 = .ok (.invokevirtual 105, 3) := by decide +kernel
theorem dX8_findBounds_139 : decode cX8_findBounds 139 = .ok (.istore 8, 2) := by decide +kernel
theorem dX8_findBounds_141 : decode cX8_findBounds 141 = .ok (.aload_n 0, 1) := by decide +kernel
theorem dX8_findBounds_142 : decode cX8_findBounds 142 = .ok (.getfield 9, 3) := by decide +kernel
theorem dX8_findBounds_145 : decode cX8_findBounds 145 = .ok (.iload 4, 2) := by decide +kernel
theorem dX8_findBounds_147 : decode cX8_findBounds 147 = .ok (.iconst 1, 1) := by decide +kernel
theorem dX8_findBounds_148 : decode cX8_findBounds 148 = .ok (.iadd, 1) := by decide +kernel
theorem dX8_findBounds_149 : decode cX8_findBounds 149 = .ok (.iload 7, 2) := by decide +kernel
theorem dX8_findBounds_151 : decode cX8_findBounds 151 = .ok (.iastore, 1) := by decide +kernel
theorem dX8_findBounds_152 : decode cX8_findBounds 152 = .ok (.aload_n 0, 1) := by decide +kernel
theorem dX8_findBounds_153 : decode cX8_findBounds 153 = .ok (.getfield 15, 3) := by decide +kernel
theorem dX8_findBounds_156 : decode cX8_findBounds 156 = .ok (.iload 4, 2) := by decide +kernel
theorem dX8_findBounds_158 : decode cX8_findBounds 158 = .ok (.iconst 1, 1) := by decide +kernel
theorem dX8_findBounds_159 : decode cX8_findBounds 159 = .ok (.iadd, 1) := by decide +kernel
theorem dX8_findBounds_160 : decode cX8_findBounds 160 = .ok (.iload 8, 2) := by decide +kernel
theorem dX8_findBounds_162 : decode cX8_findBounds 162 = .ok (.iload 7, 2) := by decide +kernel
theorem dX8_findBounds_164 : decode cX8_findBounds 164 = .ok (.bipush 41, 2) := by decide +kernel
theorem dX8_findBounds_166 : decode cX8_findBounds 166 = .ok (.iadd, 1) := by decide +kernel
theorem dX8_findBounds_167 : decode cX8_findBounds 167 = .ok (.iconst 1, 1) := by decide +kernel
theorem dX8_findBounds_168 : decode cX8_findBounds 168 = .ok (.isub, 1) := by decide +kernel
theorem dX8_findBounds_169 : decode cX8_findBounds 169 = .ok (.invokestatic 108, 3) := by decide +kernel
theorem dX8_findBounds_172 : decode cX8_findBounds 172 = .ok (.iastore, 1) := by decide +kernel
theorem dX8_findBounds_173 : decode cX8_findBounds 173 = .ok (.iinc 4 1, 3) := by decide +kernel
theorem dX8_findBounds_176 : decode cX8_findBounds 176 = .ok (.goto (-143), 3) := by decide +kernel
theorem dX8_findBounds_179 : decode cX8_findBounds 179 = .ok (.return_, 1) := by decide +kernel
set_option maxRecDepth 20000 in
theorem ggX8_quotientBelow_J9_floorDiv_7cf53 : GoodIn wsX8_quotientBelow wsJ9_floorDiv_7cf53 := goodIn_r _ [5] (by decide +kernel) (by decide +kernel)
set_option maxRecDepth 20000 in
theorem gX8_quotientBelow_J9_floorDiv_7cf53 : GoodIn wsX8_quotientBelow (va_wsS RX8 114 yJ9_floorDiv_7cf53 wsJ9_floorDiv_7cf53) := goodIn_app (goodIn_of _ (by decide +kernel)) ggX8_quotientBelow_J9_floorDiv_7cf53
theorem dX8_quotientBelow_0 : decode cX8_quotientBelow 0 = .ok (.aload_n 0, 1) := by decide +kernel
theorem dX8_quotientBelow_1 : decode cX8_quotientBelow 1 = .ok (.getfield 22, 3) := by decide +kernel
theorem dX8_quotientBelow_4 : decode cX8_quotientBelow 4 = .ok (.getfield 99, 3) := by decide +kernel
theorem dX8_quotientBelow_7 : decode cX8_quotientBelow 7 = .ok (.ifCond .ne 7, 3) := by decide +kernel
theorem dX8_quotientBelow_10 : decode cX8_quotientBelow 10 = .ok (.iconst 0, 1) := by decide +kernel
theorem dX8_quotientBelow_11 : decode cX8_quotientBelow 11 = .ok (.goto 14, 3) := by decide +kernel
theorem dX8_quotientBelow_14 : decode cX8_quotientBelow 14 = .ok (.iload_n 1, 1) := by decide +kernel
theorem dX8_quotientBelow_15 : decode cX8_quotientBelow 15 = .ok (.aload_n 0, 1) := by decide +kernel
theorem dX8_quotientBelow_16 : decode cX8_quotientBelow 16 = .ok (.getfield 22, 3) := by decide +kernel
theorem dX8_quotientBelow_19 : decode cX8_quotientBelow 19 = .ok (.getfield 99, 3) := by decide +kernel
theorem dX8_quotientBelow_22 : decode cX8_quotientBelow 22 = .ok (.invokestatic 114, 3) := by decide +kernel
theorem dX8_quotientBelow_25 : decode cX8_quotientBelow 25 = .ok (.ireturn, 1) := by decide +kernel
set_option maxRecDepth 20000 in
theorem ggX8_quotientAbove_J9_floorDiv_7cf53 : GoodIn wsX8_quotientAbove wsJ9_floorDiv_7cf53 := goodIn_r _ [5] (by decide +kernel) (by decide +kernel)
set_option maxRecDepth 20000 in
theorem gX8_quotientAbove_J9_floorDiv_7cf53 : GoodIn wsX8_quotientAbove (va_wsS RX8 114 yJ9_floorDiv_7cf53 wsJ9_floorDiv_7cf53) := goodIn_app (goodIn_of _ (by decide +kernel)) ggX8_quotientAbove_J9_floorDiv_7cf53
theorem dX8_quotientAbove_0 : decode cX8_quotientAbove 0 = .ok (.aload_n 0, 1) := by decide +kernel
theorem dX8_quotientAbove_1 : decode cX8_quotientAbove 1 = .ok (.getfield 22, 3) := by decide +kernel
theorem dX8_quotientAbove_4 : decode cX8_quotientAbove 4 = .ok (.getfield 99, 3) := by decide +kernel
theorem dX8_quotientAbove_7 : decode cX8_quotientAbove 7 = .ok (.ifCond .ne 7, 3) := by decide +kernel
theorem dX8_quotientAbove_10 : decode cX8_quotientAbove 10 = .ok (.iconst 0, 1) := by decide +kernel
theorem dX8_quotientAbove_11 : decode cX8_quotientAbove 11 = .ok (.goto 16, 3) := by decide +kernel
theorem dX8_quotientAbove_14 : decode cX8_quotientAbove 14 = .ok (.iload_n 1, 1) := by decide +kernel
theorem dX8_quotientAbove_15 : decode cX8_quotientAbove 15 = .ok (.ineg, 1) := by decide +kernel
theorem dX8_quotientAbove_16 : decode cX8_quotientAbove 16 = .ok (.aload_n 0, 1) := by decide +kernel
theorem dX8_quotientAbove_17 : decode cX8_quotientAbove 17 = .ok (.getfield 22, 3) := by decide +kernel
theorem dX8_quotientAbove_20 : decode cX8_quotientAbove 20 = .ok (.getfield 99, 3) := by decide +kernel
theorem dX8_quotientAbove_23 : decode cX8_quotientAbove 23 = .ok (.invokestatic 114, 3) := by decide +kernel
theorem dX8_quotientAbove_26 : decode cX8_quotientAbove 26 = .ok (.ineg, 1) := by decide +kernel
theorem dX8_quotientAbove_27 : decode cX8_quotientAbove 27 = .ok (.ireturn, 1) := by decide +kernel
theorem dX8_lowestAt_0 : decode cX8_lowestAt 0 = .ok (.iload_n 1, 1) := by decide +kernel
theorem dX8_lowestAt_1 : decode cX8_lowestAt 1 = .ok (.ifCond .lt 21, 3) := by decide +kernel
theorem dX8_lowestAt_4 : decode cX8_lowestAt 4 = .ok (.iload_n 1, 1) := by decide +kernel
theorem dX8_lowestAt_5 : decode cX8_lowestAt 5 = .ok (.aload_n 0, 1) := by decide +kernel
theorem dX8_lowestAt_6 : decode cX8_lowestAt 6 = .ok (.getfield 9, 3) := by decide +kernel
theorem dX8_lowestAt_9 : decode cX8_lowestAt 9 = .ok (.arraylength, 1) := by decide +kernel
theorem dX8_lowestAt_10 : decode cX8_lowestAt 10 = .ok (.if_icmp .ge 12, 3) := by decide +kernel
theorem dX8_lowestAt_13 : decode cX8_lowestAt 13 = .ok (.aload_n 0, 1) := by decide +kernel
theorem dX8_lowestAt_14 : decode cX8_lowestAt 14 = .ok (.getfield 9, 3) := by decide +kernel
theorem dX8_lowestAt_17 : decode cX8_lowestAt 17 = .ok (.iload_n 1, 1) := by decide +kernel
theorem dX8_lowestAt_18 : decode cX8_lowestAt 18 = .ok (.iaload, 1) := by decide +kernel
theorem dX8_lowestAt_19 : decode cX8_lowestAt 19 = .ok (.goto 4, 3) := by decide +kernel
theorem dX8_lowestAt_22 : decode cX8_lowestAt 22 = .ok (.iconst 0, 1) := by decide +kernel
theorem dX8_lowestAt_23 : decode cX8_lowestAt 23 = .ok (.ireturn, 1) := by decide +kernel
theorem dX8_highestAt_0 : decode cX8_highestAt 0 = .ok (.iload_n 1, 1) := by decide +kernel
theorem dX8_highestAt_1 : decode cX8_highestAt 1 = .ok (.ifCond .lt 21, 3) := by decide +kernel
theorem dX8_highestAt_4 : decode cX8_highestAt 4 = .ok (.iload_n 1, 1) := by decide +kernel
theorem dX8_highestAt_5 : decode cX8_highestAt 5 = .ok (.aload_n 0, 1) := by decide +kernel
theorem dX8_highestAt_6 : decode cX8_highestAt 6 = .ok (.getfield 15, 3) := by decide +kernel
theorem dX8_highestAt_9 : decode cX8_highestAt 9 = .ok (.arraylength, 1) := by decide +kernel
theorem dX8_highestAt_10 : decode cX8_highestAt 10 = .ok (.if_icmp .ge 12, 3) := by decide +kernel
theorem dX8_highestAt_13 : decode cX8_highestAt 13 = .ok (.aload_n 0, 1) := by decide +kernel
theorem dX8_highestAt_14 : decode cX8_highestAt 14 = .ok (.getfield 15, 3) := by decide +kernel
theorem dX8_highestAt_17 : decode cX8_highestAt 17 = .ok (.iload_n 1, 1) := by decide +kernel
theorem dX8_highestAt_18 : decode cX8_highestAt 18 = .ok (.iaload, 1) := by decide +kernel
theorem dX8_highestAt_19 : decode cX8_highestAt 19 = .ok (.goto 4, 3) := by decide +kernel
theorem dX8_highestAt_22 : decode cX8_highestAt 22 = .ok (.iconst (-1), 1) := by decide +kernel
theorem dX8_highestAt_23 : decode cX8_highestAt 23 = .ok (.ireturn, 1) := by decide +kernel
set_option maxRecDepth 20000 in
theorem ggX8_cell_X8_lowestAt : GoodIn wsX8_cell wsX8_lowestAt := goodIn_r _ [5, 6, 12, 13, 14, 15, 16, 17, 18] (by decide +kernel) (by decide +kernel)
set_option maxRecDepth 20000 in
theorem gX8_cell_X8_lowestAt : GoodIn wsX8_cell (wsV RX8 38 RX8 yX8_lowestAt wsX8_lowestAt) := goodIn_app (goodIn_of _ (by decide +kernel)) ggX8_cell_X8_lowestAt
set_option maxRecDepth 20000 in
theorem ggX8_cell_X8_highestAt : GoodIn wsX8_cell wsX8_highestAt := goodIn_r _ [10, 11, 12, 13, 14, 15, 16, 17, 18] (by decide +kernel) (by decide +kernel)
set_option maxRecDepth 20000 in
theorem gX8_cell_X8_highestAt : GoodIn wsX8_cell (wsV RX8 34 RX8 yX8_highestAt wsX8_highestAt) := goodIn_app (goodIn_of _ (by decide +kernel)) ggX8_cell_X8_highestAt
theorem dX8_cell_0 : decode cX8_cell 0 = .ok (.iload_n 2, 1) := by decide +kernel
theorem dX8_cell_1 : decode cX8_cell 1 = .ok (.aload_n 0, 1) := by decide +kernel
theorem dX8_cell_2 : decode cX8_cell 2 = .ok (.iload_n 1, 1) := by decide +kernel
theorem dX8_cell_3 : decode cX8_cell 3 = .ok (.invokevirtual 38, 3) := by decide +kernel
theorem dX8_cell_6 : decode cX8_cell 6 = .ok (.if_icmp .lt 12, 3) := by decide +kernel
theorem dX8_cell_9 : decode cX8_cell 9 = .ok (.iload_n 2, 1) := by decide +kernel
theorem dX8_cell_10 : decode cX8_cell 10 = .ok (.aload_n 0, 1) := by decide +kernel
theorem dX8_cell_11 : decode cX8_cell 11 = .ok (.iload_n 1, 1) := by decide +kernel
theorem dX8_cell_12 : decode cX8_cell 12 = .ok (.invokevirtual 34, 3) := by decide +kernel
theorem dX8_cell_15 : decode cX8_cell 15 = .ok (.if_icmp .le 5, 3) := by decide +kernel
theorem dX8_cell_18 : decode cX8_cell 18 = .ok (.iconst (-1), 1) := by decide +kernel
theorem dX8_cell_19 : decode cX8_cell 19 = .ok (.ireturn, 1) := by decide +kernel
theorem dX8_cell_20 : decode cX8_cell 20 = .ok (.iload_n 1, 1) := by decide +kernel
theorem dX8_cell_21 : decode cX8_cell 21 = .ok (.bipush 41, 2) := by decide +kernel
theorem dX8_cell_23 : decode cX8_cell 23 = .ok (.imul, 1) := by decide +kernel
theorem dX8_cell_24 : decode cX8_cell 24 = .ok (.iload_n 2, 1) := by decide +kernel
theorem dX8_cell_25 : decode cX8_cell 25 = .ok (.iadd, 1) := by decide +kernel
theorem dX8_cell_26 : decode cX8_cell 26 = .ok (.aload_n 0, 1) := by decide +kernel
theorem dX8_cell_27 : decode cX8_cell 27 = .ok (.iload_n 1, 1) := by decide +kernel
theorem dX8_cell_28 : decode cX8_cell 28 = .ok (.invokevirtual 38, 3) := by decide +kernel
theorem dX8_cell_31 : decode cX8_cell 31 = .ok (.isub, 1) := by decide +kernel
theorem dX8_cell_32 : decode cX8_cell 32 = .ok (.ireturn, 1) := by decide +kernel
set_option maxRecDepth 20000 in
theorem ggX8_at_X8_cell : GoodIn wsX8_at wsX8_cell := goodIn_r _ [6, 7, 8, 9, 5, 10, 11, 12, 13, 14, 15, 16, 17, 18, 19, 20, 21, 22, 23] (by decide +kernel) (by decide +kernel)
set_option maxRecDepth 20000 in
theorem gX8_at_X8_cell : GoodIn wsX8_at (wsV RX8 117 RX8 yX8_cell wsX8_cell) := goodIn_app (goodIn_of _ (by decide +kernel)) ggX8_at_X8_cell
theorem dX8_at_0 : decode cX8_at 0 = .ok (.aload_n 0, 1) := by decide +kernel
theorem dX8_at_1 : decode cX8_at 1 = .ok (.iload_n 1, 1) := by decide +kernel
theorem dX8_at_2 : decode cX8_at 2 = .ok (.iload_n 2, 1) := by decide +kernel
theorem dX8_at_3 : decode cX8_at 3 = .ok (.invokevirtual 117, 3) := by decide +kernel
theorem dX8_at_6 : decode cX8_at 6 = .ok (.istore_n 3, 1) := by decide +kernel
theorem dX8_at_7 : decode cX8_at 7 = .ok (.iload_n 3, 1) := by decide +kernel
theorem dX8_at_8 : decode cX8_at 8 = .ok (.ifCond .lt 21, 3) := by decide +kernel
theorem dX8_at_11 : decode cX8_at 11 = .ok (.iload_n 3, 1) := by decide +kernel
theorem dX8_at_12 : decode cX8_at 12 = .ok (.aload_n 0, 1) := by decide +kernel
theorem dX8_at_13 : decode cX8_at 13 = .ok (.getfield 18, 3) := by decide +kernel
theorem dX8_at_16 : decode cX8_at 16 = .ok (.arraylength, 1) := by decide +kernel
theorem dX8_at_17 : decode cX8_at 17 = .ok (.if_icmp .ge 12, 3) := by decide +kernel
theorem dX8_at_20 : decode cX8_at 20 = .ok (.aload_n 0, 1) := by decide +kernel
theorem dX8_at_21 : decode cX8_at 21 = .ok (.getfield 18, 3) := by decide +kernel
theorem dX8_at_24 : decode cX8_at 24 = .ok (.iload_n 3, 1) := by decide +kernel
theorem dX8_at_25 : decode cX8_at 25 = .ok (.laload, 1) := by decide +kernel
theorem dX8_at_26 : decode cX8_at 26 = .ok (.goto 4, 3) := by decide +kernel
theorem dX8_at_29 : decode cX8_at 29 = .ok (.lconst 0, 1) := by decide +kernel
theorem dX8_at_30 : decode cX8_at 30 = .ok (.lreturn, 1) := by decide +kernel
set_option maxRecDepth 20000 in
theorem ggX8_put_X8_cell : GoodIn wsX8_put wsX8_cell := goodIn_r _ [6, 7, 8, 9, 5, 10, 11, 12, 13, 14, 15, 16, 17, 18, 19, 20, 21, 22, 23] (by decide +kernel) (by decide +kernel)
set_option maxRecDepth 20000 in
theorem gX8_put_X8_cell : GoodIn wsX8_put (wsV RX8 117 RX8 yX8_cell wsX8_cell) := goodIn_app (goodIn_of _ (by decide +kernel)) ggX8_put_X8_cell
theorem dX8_put_0 : decode cX8_put 0 = .ok (.aload_n 0, 1) := by decide +kernel
theorem dX8_put_1 : decode cX8_put 1 = .ok (.iload_n 1, 1) := by decide +kernel
theorem dX8_put_2 : decode cX8_put 2 = .ok (.iload_n 2, 1) := by decide +kernel
theorem dX8_put_3 : decode cX8_put 3 = .ok (.invokevirtual 117, 3) := by decide +kernel
theorem dX8_put_6 : decode cX8_put 6 = .ok (.istore 5, 2) := by decide +kernel
theorem dX8_put_8 : decode cX8_put 8 = .ok (.iload 5, 2) := by decide +kernel
theorem dX8_put_10 : decode cX8_put 10 = .ok (.ifCond .lt 21, 3) := by decide +kernel
theorem dX8_put_13 : decode cX8_put 13 = .ok (.iload 5, 2) := by decide +kernel
theorem dX8_put_15 : decode cX8_put 15 = .ok (.aload_n 0, 1) := by decide +kernel
theorem dX8_put_16 : decode cX8_put 16 = .ok (.getfield 18, 3) := by decide +kernel
theorem dX8_put_19 : decode cX8_put 19 = .ok (.arraylength, 1) := by decide +kernel
theorem dX8_put_20 : decode cX8_put 20 = .ok (.if_icmp .ge 11, 3) := by decide +kernel
theorem dX8_put_23 : decode cX8_put 23 = .ok (.aload_n 0, 1) := by decide +kernel
theorem dX8_put_24 : decode cX8_put 24 = .ok (.getfield 18, 3) := by decide +kernel
theorem dX8_put_27 : decode cX8_put 27 = .ok (.iload 5, 2) := by decide +kernel
theorem dX8_put_29 : decode cX8_put 29 = .ok (.lload_n 3, 1) := by decide +kernel
theorem dX8_put_30 : decode cX8_put 30 = .ok (.lastore, 1) := by decide +kernel
theorem dX8_put_31 : decode cX8_put 31 = .ok (.return_, 1) := by decide +kernel
