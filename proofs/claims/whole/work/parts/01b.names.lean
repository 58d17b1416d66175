theorem dJ9_floorDiv_7cf53_0 : decode cJ9_floorDiv_7cf53 0 = .ok (.iload_n 0, 1) := by decide +kernel
theorem dJ9_floorDiv_7cf53_1 : decode cJ9_floorDiv_7cf53 1 = .ok (.iload_n 1, 1) := by decide +kernel
theorem dJ9_floorDiv_7cf53_2 : decode cJ9_floorDiv_7cf53 2 = .ok (.idiv, 1) := by decide +kernel
theorem dJ9_floorDiv_7cf53_3 : decode cJ9_floorDiv_7cf53 3 = .ok (.istore_n 2, 1) := by decide +kernel
theorem dJ9_floorDiv_7cf53_4 : decode cJ9_floorDiv_7cf53 4 = .ok (.iload_n 0, 1) := by decide +kernel
theorem dJ9_floorDiv_7cf53_5 : decode cJ9_floorDiv_7cf53 5 = .ok (.iload_n 1, 1) := by decide +kernel
theorem dJ9_floorDiv_7cf53_6 : decode cJ9_floorDiv_7cf53 6 = .ok (.ixor, 1) := by decide +kernel
theorem dJ9_floorDiv_7cf53_7 : decode cJ9_floorDiv_7cf53 7 = .ok (.ifCond .ge 14, 3) := by decide +kernel
theorem dJ9_floorDiv_7cf53_10 : decode cJ9_floorDiv_7cf53 10 = .ok (.iload_n 2, 1) := by decide +kernel
theorem dJ9_floorDiv_7cf53_11 : decode cJ9_floorDiv_7cf53 11 = .ok (.iload_n 1, 1) := by decide +kernel
theorem dJ9_floorDiv_7cf53_12 : decode cJ9_floorDiv_7cf53 12 = .ok (.imul, 1) := by decide +kernel
theorem dJ9_floorDiv_7cf53_13 : decode cJ9_floorDiv_7cf53 13 = .ok (.iload_n 0, 1) := by decide +kernel
theorem dJ9_floorDiv_7cf53_14 : decode cJ9_floorDiv_7cf53 14 = .ok (.if_icmp .eq 7, 3) := by decide +kernel
theorem dJ9_floorDiv_7cf53_17 : decode cJ9_floorDiv_7cf53 17 = .ok (.iload_n 2, 1) := by decide +kernel
theorem dJ9_floorDiv_7cf53_18 : decode cJ9_floorDiv_7cf53 18 = .ok (.iconst 1, 1) := by decide +kernel
theorem dJ9_floorDiv_7cf53_19 : decode cJ9_floorDiv_7cf53 19 = .ok (.isub, 1) := by decide +kernel
theorem dJ9_floorDiv_7cf53_20 : decode cJ9_floorDiv_7cf53 20 = .ok (.ireturn, 1) := by decide +kernel
theorem dJ9_floorDiv_7cf53_21 : decode cJ9_floorDiv_7cf53 21 = .ok (.iload_n 2, 1) := by decide +kernel
theorem dJ9_floorDiv_7cf53_22 : decode cJ9_floorDiv_7cf53 22 = .ok (.ireturn, 1) := by decide +kernel
theorem dJ9_floorDiv_f86c9_0 : decode cJ9_floorDiv_f86c9 0 = .ok (.lload_n 0, 1) := by decide +kernel
theorem dJ9_floorDiv_f86c9_1 : decode cJ9_floorDiv_f86c9 1 = .ok (.lload_n 2, 1) := by decide +kernel
theorem dJ9_floorDiv_f86c9_2 : decode cJ9_floorDiv_f86c9 2 = .ok (.ldiv, 1) := by decide +kernel
theorem dJ9_floorDiv_f86c9_3 : decode cJ9_floorDiv_f86c9 3 = .ok (.lstore 4, 2) := by decide +kernel
theorem dJ9_floorDiv_f86c9_5 : decode cJ9_floorDiv_f86c9 5 = .ok (.lload_n 0, 1) := by decide +kernel
theorem dJ9_floorDiv_f86c9_6 : decode cJ9_floorDiv_f86c9 6 = .ok (.lload_n 2, 1) := by decide +kernel
theorem dJ9_floorDiv_f86c9_7 : decode cJ9_floorDiv_f86c9 7 = .ok (.lxor, 1) := by decide +kernel
theorem dJ9_floorDiv_f86c9_8 : decode cJ9_floorDiv_f86c9 8 = .ok (.lconst 0, 1) := by decide +kernel
theorem dJ9_floorDiv_f86c9_9 : decode cJ9_floorDiv_f86c9 9 = .ok (.lcmp, 1) := by decide +kernel
theorem dJ9_floorDiv_f86c9_10 : decode cJ9_floorDiv_f86c9 10 = .ok (.ifCond .ge 17, 3) := by decide +kernel
theorem dJ9_floorDiv_f86c9_13 : decode cJ9_floorDiv_f86c9 13 = .ok (.lload 4, 2) := by decide +kernel
theorem dJ9_floorDiv_f86c9_15 : decode cJ9_floorDiv_f86c9 15 = .ok (.lload_n 2, 1) := by decide +kernel
theorem dJ9_floorDiv_f86c9_16 : decode cJ9_floorDiv_f86c9 16 = .ok (.lmul, 1) := by decide +kernel
theorem dJ9_floorDiv_f86c9_17 : decode cJ9_floorDiv_f86c9 17 = .ok (.lload_n 0, 1) := by decide +kernel
theorem dJ9_floorDiv_f86c9_18 : decode cJ9_floorDiv_f86c9 18 = .ok (.lcmp, 1) := by decide +kernel
theorem dJ9_floorDiv_f86c9_19 : decode cJ9_floorDiv_f86c9 19 = .ok (.ifCond .eq 8, 3) := by decide +kernel
theorem dJ9_floorDiv_f86c9_22 : decode cJ9_floorDiv_f86c9 22 = .ok (.lload 4, 2) := by decide +kernel
theorem dJ9_floorDiv_f86c9_24 : decode cJ9_floorDiv_f86c9 24 = .ok (.lconst 1, 1) := by decide +kernel
theorem dJ9_floorDiv_f86c9_25 : decode cJ9_floorDiv_f86c9 25 = .ok (.lsub, 1) := by decide +kernel
theorem dJ9_floorDiv_f86c9_26 : decode cJ9_floorDiv_f86c9 26 = .ok (.lreturn, 1) := by decide +kernel
theorem dJ9_floorDiv_f86c9_27 : decode cJ9_floorDiv_f86c9 27 = .ok (.lload 4, 2) := by decide +kernel
theorem dJ9_floorDiv_f86c9_29 : decode cJ9_floorDiv_f86c9 29 = .ok (.lreturn, 1) := by decide +kernel
theorem dJ9_floorMod_7cf53_0 : decode cJ9_floorMod_7cf53 0 = .ok (.iload_n 0, 1) := by decide +kernel
theorem dJ9_floorMod_7cf53_1 : decode cJ9_floorMod_7cf53 1 = .ok (.iload_n 1, 1) := by decide +kernel
theorem dJ9_floorMod_7cf53_2 : decode cJ9_floorMod_7cf53 2 = .ok (.irem, 1) := by decide +kernel
theorem dJ9_floorMod_7cf53_3 : decode cJ9_floorMod_7cf53 3 = .ok (.istore_n 2, 1) := by decide +kernel
theorem dJ9_floorMod_7cf53_4 : decode cJ9_floorMod_7cf53 4 = .ok (.iload_n 0, 1) := by decide +kernel
theorem dJ9_floorMod_7cf53_5 : decode cJ9_floorMod_7cf53 5 = .ok (.iload_n 1, 1) := by decide +kernel
theorem dJ9_floorMod_7cf53_6 : decode cJ9_floorMod_7cf53 6 = .ok (.ixor, 1) := by decide +kernel
theorem dJ9_floorMod_7cf53_7 : decode cJ9_floorMod_7cf53 7 = .ok (.ifCond .ge 11, 3) := by decide +kernel
theorem dJ9_floorMod_7cf53_10 : decode cJ9_floorMod_7cf53 10 = .ok (.iload_n 2, 1) := by decide +kernel
theorem dJ9_floorMod_7cf53_11 : decode cJ9_floorMod_7cf53 11 = .ok (.ifCond .eq 7, 3) := by decide +kernel
theorem dJ9_floorMod_7cf53_14 : decode cJ9_floorMod_7cf53 14 = .ok (.iload_n 2, 1) := by decide +kernel
theorem dJ9_floorMod_7cf53_15 : decode cJ9_floorMod_7cf53 15 = .ok (.iload_n 1, 1) := by decide +kernel
theorem dJ9_floorMod_7cf53_16 : decode cJ9_floorMod_7cf53 16 = .ok (.iadd, 1) := by decide +kernel
theorem dJ9_floorMod_7cf53_17 : decode cJ9_floorMod_7cf53 17 = .ok (.ireturn, 1) := by decide +kernel
theorem dJ9_floorMod_7cf53_18 : decode cJ9_floorMod_7cf53 18 = .ok (.iload_n 2, 1) := by decide +kernel
theorem dJ9_floorMod_7cf53_19 : decode cJ9_floorMod_7cf53 19 = .ok (.ireturn, 1) := by decide +kernel
theorem dJ9_abs_0f7a4_0 : decode cJ9_abs_0f7a4 0 = .ok (.iload_n 0, 1) := by decide +kernel
theorem dJ9_abs_0f7a4_1 : decode cJ9_abs_0f7a4 1 = .ok (.ifCond .ge 8, 3) := by decide +kernel
theorem dJ9_abs_0f7a4_4 : decode cJ9_abs_0f7a4 4 = .ok (.iload_n 0, 1) := by decide +kernel
theorem dJ9_abs_0f7a4_5 : decode cJ9_abs_0f7a4 5 = .ok (.ineg, 1) := by decide +kernel
theorem dJ9_abs_0f7a4_6 : decode cJ9_abs_0f7a4 6 = .ok (.goto 4, 3) := by decide +kernel
theorem dJ9_abs_0f7a4_9 : decode cJ9_abs_0f7a4 9 = .ok (.iload_n 0, 1) := by decide +kernel
theorem dJ9_abs_0f7a4_10 : decode cJ9_abs_0f7a4 10 = .ok (.ireturn, 1) := by decide +kernel
theorem dJ9_abs_067f4_0 : decode cJ9_abs_067f4 0 = .ok (.lload_n 0, 1) := by decide +kernel
theorem dJ9_abs_067f4_1 : decode cJ9_abs_067f4 1 = .ok (.lconst 0, 1) := by decide +kernel
theorem dJ9_abs_067f4_2 : decode cJ9_abs_067f4 2 = .ok (.lcmp, 1) := by decide +kernel
theorem dJ9_abs_067f4_3 : decode cJ9_abs_067f4 3 = .ok (.ifCond .ge 8, 3) := by decide +kernel
theorem dJ9_abs_067f4_6 : decode cJ9_abs_067f4 6 = .ok (.lload_n 0, 1) := by decide +kernel
theorem dJ9_abs_067f4_7 : decode cJ9_abs_067f4 7 = .ok (.lneg, 1) := by decide +kernel
theorem dJ9_abs_067f4_8 : decode cJ9_abs_067f4 8 = .ok (.goto 4, 3) := by decide +kernel
theorem dJ9_abs_067f4_11 : decode cJ9_abs_067f4 11 = .ok (.lload_n 0, 1) := by decide +kernel
theorem dJ9_abs_067f4_12 : decode cJ9_abs_067f4 12 = .ok (.lreturn, 1) := by decide +kernel
theorem dJ9_max_7cf53_0 : decode cJ9_max_7cf53 0 = .ok (.iload_n 0, 1) := by decide +kernel
theorem dJ9_max_7cf53_1 : decode cJ9_max_7cf53 1 = .ok (.iload_n 1, 1) := by decide +kernel
theorem dJ9_max_7cf53_2 : decode cJ9_max_7cf53 2 = .ok (.if_icmp .lt 7, 3) := by decide +kernel
theorem dJ9_max_7cf53_5 : decode cJ9_max_7cf53 5 = .ok (.iload_n 0, 1) := by decide +kernel
theorem dJ9_max_7cf53_6 : decode cJ9_max_7cf53 6 = .ok (.goto 4, 3) := by decide +kernel
theorem dJ9_max_7cf53_9 : decode cJ9_max_7cf53 9 = .ok (.iload_n 1, 1) := by decide +kernel
theorem dJ9_max_7cf53_10 : decode cJ9_max_7cf53 10 = .ok (.ireturn, 1) := by decide +kernel
theorem dJ9_min_7cf53_0 : decode cJ9_min_7cf53 0 = .ok (.iload_n 0, 1) := by decide +kernel
theorem dJ9_min_7cf53_1 : decode cJ9_min_7cf53 1 = .ok (.iload_n 1, 1) := by decide +kernel
theorem dJ9_min_7cf53_2 : decode cJ9_min_7cf53 2 = .ok (.if_icmp .gt 7, 3) := by decide +kernel
theorem dJ9_min_7cf53_5 : decode cJ9_min_7cf53 5 = .ok (.iload_n 0, 1) := by decide +kernel
theorem dJ9_min_7cf53_6 : decode cJ9_min_7cf53 6 = .ok (.goto 4, 3) := by decide +kernel
theorem dJ9_min_7cf53_9 : decode cJ9_min_7cf53 9 = .ok (.iload_n 1, 1) := by decide +kernel
theorem dJ9_min_7cf53_10 : decode cJ9_min_7cf53 10 = .ok (.ireturn, 1) := by decide +kernel
set_option maxRecDepth 20000 in
theorem ggX0_init_X0_become : GoodIn wsX0_init wsX0_become := goodIn_r _ [11, 12, 13, 14, 15, 16, 17, 18, 19, 5, 20, 21, 22, 10, 23, 6, 24, 25, 26, 27, 28, 29, 30, 31, 32, 33, 34, 35, 36, 37, 38, 39, 40, 41, 42, 43, 44, 45, 46, 47, 48] (by decide +kernel) (by decide +kernel)
set_option maxRecDepth 20000 in
theorem gX0_init_X0_become : GoodIn wsX0_init (wsV RX0 18 RX0 yX0_become wsX0_become) := goodIn_app (goodIn_of _ (by decide +kernel)) ggX0_init_X0_become
theorem dX0_init_0 : decode cX0_init 0 = .ok (.aload_n 0, 1) := by decide +kernel
theorem dX0_init_1 : decode cX0_init 1 = .ok (.invokespecial 3, 3) := by decide +kernel
theorem dX0_init_4 : decode cX0_init 4 = .ok (.aload_n 0, 1) := by decide +kernel
theorem dX0_init_5 : decode cX0_init 5 = .ok (.bipush 12, 2) := by decide +kernel
theorem dX0_init_7 : decode cX0_init 7 = .ok (.newarray .int, 2) := by decide +kernel
theorem dX0_init_9 : decode cX0_init 9 = .ok (.putfield 9, 3) := by decide +kernel
theorem dX0_init_12 : decode cX0_init 12 = .ok (.aload_n 0, 1) := by decide +kernel
theorem dX0_init_13 : decode cX0_init 13 = .ok (.bipush 10, 2) := by decide +kernel
theorem dX0_init_15 : decode cX0_init 15 = .ok (.newarray .int, 2) := by decide +kernel
theorem dX0_init_17 : decode cX0_init 17 = .ok (.putfield 15, 3) := by decide +kernel
theorem dX0_init_20 : decode cX0_init 20 = .ok (.aload_n 0, 1) := by decide +kernel
theorem dX0_init_21 : decode cX0_init 21 = .ok (.bipush 10, 2) := by decide +kernel
theorem dX0_init_23 : decode cX0_init 23 = .ok (.iconst 1, 1) := by decide +kernel
theorem dX0_init_24 : decode cX0_init 24 = .ok (.invokevirtual 18, 3) := by decide +kernel
theorem dX0_init_27 : decode cX0_init 27 = .ok (.return_, 1) := by decide +kernel
set_option maxRecDepth 20000 in
theorem ggX0_become_X0_chooseAgain : GoodIn wsX0_become wsX0_chooseAgain := goodIn_r _ [14, 15, 16, 8, 17, 7, 18, 19, 20, 13, 21, 9, 22, 23, 24, 25, 26, 27, 28, 29, 30, 31, 32, 33, 34, 35, 36, 37, 38, 39, 40] (by decide +kernel) (by decide +kernel)
set_option maxRecDepth 20000 in
theorem gX0_become_X0_chooseAgain : GoodIn wsX0_become (wsV RX0 41 RX0 yX0_chooseAgain wsX0_chooseAgain) := goodIn_app (goodIn_of _ (by decide +kernel)) ggX0_become_X0_chooseAgain
theorem dX0_become_0 : decode cX0_become 0 = .ok (.aload_n 0, 1) := by decide +kernel
theorem dX0_become_1 : decode cX0_become 1 = .ok (.iload_n 1, 1) := by decide +kernel
theorem dX0_become_2 : decode cX0_become 2 = .ok (.putfield 22, 3) := by decide +kernel
theorem dX0_become_5 : decode cX0_become 5 = .ok (.aload_n 0, 1) := by decide +kernel
theorem dX0_become_6 : decode cX0_become 6 = .ok (.iload_n 2, 1) := by decide +kernel
theorem dX0_become_7 : decode cX0_become 7 = .ok (.putfield 26, 3) := by decide +kernel
theorem dX0_become_10 : decode cX0_become 10 = .ok (.aload_n 0, 1) := by decide +kernel
theorem dX0_become_11 : decode cX0_become 11 = .ok (.iload_n 1, 1) := by decide +kernel
theorem dX0_become_12 : decode cX0_become 12 = .ok (.invokestatic 29, 3) := by decide +kernel
theorem dX0_become_15 : decode cX0_become 15 = .ok (.putfield 35, 3) := by decide +kernel
theorem dX0_become_18 : decode cX0_become 18 = .ok (.aload_n 0, 1) := by decide +kernel
theorem dX0_become_19 : decode cX0_become 19 = .ok (.aload_n 0, 1) := by decide +kernel
theorem dX0_become_20 : decode cX0_become 20 = .ok (.getfield 35, 3) := by decide +kernel
theorem dX0_become_23 : decode cX0_become 23 = .ok (.putfield 38, 3) := by decide +kernel
theorem dX0_become_26 : decode cX0_become 26 = .ok (.iconst 0, 1) := by decide +kernel
theorem dX0_become_27 : decode cX0_become 27 = .ok (.istore_n 3, 1) := by decide +kernel
theorem dX0_become_28 : decode cX0_become 28 = .ok (.iload_n 3, 1) := by decide +kernel
theorem dX0_become_29 : decode cX0_become 29 = .ok (.aload_n 0, 1) := by decide +kernel
theorem dX0_become_30 : decode cX0_become 30 = .ok (.getfield 38, 3) := by decide +kernel
theorem dX0_become_33 : decode cX0_become 33 = .ok (.if_icmp .ge 25, 3) := by decide +kernel
theorem dX0_become_36 : decode cX0_become 36 = .ok (.iload_n 3, 1) := by decide +kernel
theorem dX0_become_37 : decode cX0_become 37 = .ok (.aload_n 0, 1) := by decide +kernel
theorem dX0_become_38 : decode cX0_become 38 = .ok (.getfield 9, 3) := by decide +kernel
theorem dX0_become_41 : decode cX0_become 41 = .ok (.arraylength, 1) := by decide +kernel
theorem dX0_become_42 : decode cX0_become 42 = .ok (.if_icmp .ge 16, 3) := by decide +kernel
theorem dX0_become_45 : decode cX0_become 45 = .ok (.aload_n 0, 1) := by decide +kernel
theorem dX0_become_46 : decode cX0_become 46 = .ok (.getfield 9, 3) := by decide +kernel
theorem dX0_become_49 : decode cX0_become 49 = .ok (.iload_n 3, 1) := by decide +kernel
theorem dX0_become_50 : decode cX0_become 50 = .ok (.iload_n 3, 1) := by decide +kernel
theorem dX0_become_51 : decode cX0_become 51 = .ok (.iastore, 1) := by decide +kernel
theorem dX0_become_52 : decode cX0_become 52 = .ok (.iinc 3 1, 3) := by decide +kernel
theorem dX0_become_55 : decode cX0_become 55 = .ok (.goto (-27), 3) := by decide +kernel
theorem dX0_become_58 : decode cX0_become 58 = .ok (.aload_n 0, 1) := by decide +kernel
theorem dX0_become_59 : decode cX0_become 59 = .ok (.invokevirtual 41, 3) := by decide +kernel
theorem dX0_become_62 : decode cX0_become 62 = .ok (.return_, 1) := by decide +kernel
theorem dX0_listed_0 : decode cX0_listed 0 = .ok (.iload_n 1, 1) := by decide +kernel
theorem dX0_listed_1 : decode cX0_listed 1 = .ok (.ifCond .lt 21, 3) := by decide +kernel
theorem dX0_listed_4 : decode cX0_listed 4 = .ok (.iload_n 1, 1) := by decide +kernel
theorem dX0_listed_5 : decode cX0_listed 5 = .ok (.aload_n 0, 1) := by decide +kernel
theorem dX0_listed_6 : decode cX0_listed 6 = .ok (.getfield 9, 3) := by decide +kernel
theorem dX0_listed_9 : decode cX0_listed 9 = .ok (.arraylength, 1) := by decide +kernel
theorem dX0_listed_10 : decode cX0_listed 10 = .ok (.if_icmp .ge 12, 3) := by decide +kernel
theorem dX0_listed_13 : decode cX0_listed 13 = .ok (.aload_n 0, 1) := by decide +kernel
theorem dX0_listed_14 : decode cX0_listed 14 = .ok (.getfield 9, 3) := by decide +kernel
theorem dX0_listed_17 : decode cX0_listed 17 = .ok (.iload_n 1, 1) := by decide +kernel
theorem dX0_listed_18 : decode cX0_listed 18 = .ok (.iaload, 1) := by decide +kernel
theorem dX0_listed_19 : decode cX0_listed 19 = .ok (.goto 4, 3) := by decide +kernel
theorem dX0_listed_22 : decode cX0_listed 22 = .ok (.iconst 0, 1) := by decide +kernel
theorem dX0_listed_23 : decode cX0_listed 23 = .ok (.ireturn, 1) := by decide +kernel
theorem dX0_placeOf_0 : decode cX0_placeOf 0 = .ok (.iconst 0, 1) := by decide +kernel
theorem dX0_placeOf_1 : decode cX0_placeOf 1 = .ok (.istore_n 2, 1) := by decide +kernel
theorem dX0_placeOf_2 : decode cX0_placeOf 2 = .ok (.iload_n 2, 1) := by decide +kernel
theorem dX0_placeOf_3 : decode cX0_placeOf 3 = .ok (.aload_n 0, 1) := by decide +kernel
theorem dX0_placeOf_4 : decode cX0_placeOf 4 = .ok (.getfield 38, 3) := by decide +kernel
theorem dX0_placeOf_7 : decode cX0_placeOf 7 = .ok (.if_icmp .ge 30, 3) := by decide +kernel
theorem dX0_placeOf_10 : decode cX0_placeOf 10 = .ok (.iload_n 2, 1) := by decide +kernel
theorem dX0_placeOf_11 : decode cX0_placeOf 11 = .ok (.aload_n 0, 1) := by decide +kernel
theorem dX0_placeOf_12 : decode cX0_placeOf 12 = .ok (.getfield 9, 3) := by decide +kernel
theorem dX0_placeOf_15 : decode cX0_placeOf 15 = .ok (.arraylength, 1) := by decide +kernel
theorem dX0_placeOf_16 : decode cX0_placeOf 16 = .ok (.if_icmp .ge 21, 3) := by decide +kernel
theorem dX0_placeOf_19 : decode cX0_placeOf 19 = .ok (.aload_n 0, 1) := by decide +kernel
theorem dX0_placeOf_20 : decode cX0_placeOf 20 = .ok (.getfield 9, 3) := by decide +kernel
theorem dX0_placeOf_23 : decode cX0_placeOf 23 = .ok (.iload_n 2, 1) := by decide +kernel
theorem dX0_placeOf_24 : decode cX0_placeOf 24 = .ok (.iaload, 1) := by decide +kernel
theorem dX0_placeOf_25 : decode cX0_placeOf 25 = .ok (.iload_n 1, 1) := by decide +kernel
theorem dX0_placeOf_26 : decode cX0_placeOf 26 = .ok (.if_icmp .ne 5, 3) := by decide +kernel
theorem dX0_placeOf_29 : decode cX0_placeOf 29 = .ok (.iload_n 2, 1) := by decide +kernel
theorem dX0_placeOf_30 : decode cX0_placeOf 30 = .ok (.ireturn, 1) := by decide +kernel
theorem dX0_placeOf_31 : decode cX0_placeOf 31 = .ok (.iinc 2 1, 3) := by decide +kernel
theorem dX0_placeOf_34 : decode cX0_placeOf 34 = .ok (.goto (-32), 3) := by decide +kernel
theorem dX0_placeOf_37 : decode cX0_placeOf 37 = .ok (.iconst (-1), 1) := by decide +kernel
theorem dX0_placeOf_38 : decode cX0_placeOf 38 = .ok (.ireturn, 1) := by decide +kernel
set_option maxRecDepth 20000 in
theorem ggX0_append_X0_chooseAgain : GoodIn wsX0_append wsX0_chooseAgain := goodIn_r _ [7, 8, 9, 1, 10, 11, 12, 13, 14, 6, 15, 2, 16, 17, 18, 19, 20, 21, 22, 23, 24, 25, 26, 27, 28, 29, 30, 31, 32, 33, 34] (by decide +kernel) (by decide +kernel)
set_option maxRecDepth 20000 in
theorem gX0_append_X0_chooseAgain : GoodIn wsX0_append (wsV RX0 41 RX0 yX0_chooseAgain wsX0_chooseAgain) := goodIn_app (goodIn_of _ (by decide +kernel)) ggX0_append_X0_chooseAgain
theorem dX0_append_0 : decode cX0_append 0 = .ok (.aload_n 0, 1) := by decide +kernel
theorem dX0_append_1 : decode cX0_append 1 = .ok (.getfield 38, 3) := by decide +kernel
theorem dX0_append_4 : decode cX0_append 4 = .ok (.ifCond .lt 15, 3) := by decide +kernel
theorem dX0_append_7 : decode cX0_append 7 = .ok (.aload_n 0, 1) := by decide +kernel
theorem dX0_append_8 : decode cX0_append 8 = .ok (.getfield 38, 3) := by decide +kernel
theorem dX0_append_11 : decode cX0_append 11 = .ok (.aload_n 0, 1) := by decide +kernel
theorem dX0_append_12 : decode cX0_append 12 = .ok (.getfield 9, 3) := by decide +kernel
theorem dX0_append_15 : decode cX0_append 15 = .ok (.arraylength, 1) := by decide +kernel
theorem dX0_append_16 : decode cX0_append 16 = .ok (.if_icmp .lt 4, 3) := by decide +kernel
theorem dX0_append_19 : decode cX0_append 19 = .ok (.return_, 1) := by decide +kernel
theorem dX0_append_20 : decode cX0_append 20 = .ok (.aload_n 0, 1) := by decide +kernel
theorem dX0_append_21 : decode cX0_append 21 = .ok (.getfield 9, 3) := by decide +kernel
theorem dX0_append_24 : decode cX0_append 24 = .ok (.aload_n 0, 1) := by decide +kernel
theorem dX0_append_25 : decode cX0_append 25 = .ok (.getfield 38, 3) := by decide +kernel
theorem dX0_append_28 : decode cX0_append 28 = .ok (.iload_n 1, 1) := by decide +kernel
theorem dX0_append_29 : decode cX0_append 29 = .ok (.iastore, 1) := by decide +kernel
theorem dX0_append_30 : decode cX0_append 30 = .ok (.aload_n 0, 1) := by decide +kernel
theorem dX0_append_31 : decode cX0_append 31 = .ok (.dup, 1) := by decide +kernel
theorem dX0_append_32 : decode cX0_append 32 = .ok (.getfield 38, 3) := by decide +kernel
theorem dX0_append_35 : decode cX0_append 35 = .ok (.iconst 1, 1) := by decide +kernel
theorem dX0_append_36 : decode cX0_append 36 = .ok (.iadd, 1) := by decide +kernel
theorem dX0_append_37 : decode cX0_append 37 = .ok (.putfield 38, 3) := by decide +kernel
theorem dX0_append_40 : decode cX0_append 40 = .ok (.aload_n 0, 1) := by decide +kernel
theorem dX0_append_41 : decode cX0_append 41 = .ok (.invokevirtual 41, 3) := by decide +kernel
theorem dX0_append_44 : decode cX0_append 44 = .ok (.return_, 1) := by decide +kernel
set_option maxRecDepth 20000 in
theorem ggX0_removeAt_X0_chooseAgain : GoodIn wsX0_removeAt wsX0_chooseAgain := goodIn_r _ [7, 8, 9, 1, 10, 11, 12, 13, 14, 6, 15, 2, 16, 17, 18, 19, 20, 21, 22, 23, 24, 25, 26, 27, 28, 29, 30, 31, 32, 33, 34] (by decide +kernel) (by decide +kernel)
set_option maxRecDepth 20000 in
theorem gX0_removeAt_X0_chooseAgain : GoodIn wsX0_removeAt (wsV RX0 41 RX0 yX0_chooseAgain wsX0_chooseAgain) := goodIn_app (goodIn_of _ (by decide +kernel)) ggX0_removeAt_X0_chooseAgain
theorem dX0_removeAt_0 : decode cX0_removeAt 0 = .ok (.iload_n 1, 1) := by decide +kernel
theorem dX0_removeAt_1 : decode cX0_removeAt 1 = .ok (.ifCond .lt 11, 3) := by decide +kernel
theorem dX0_removeAt_4 : decode cX0_removeAt 4 = .ok (.iload_n 1, 1) := by decide +kernel
theorem dX0_removeAt_5 : decode cX0_removeAt 5 = .ok (.aload_n 0, 1) := by decide +kernel
theorem dX0_removeAt_6 : decode cX0_removeAt 6 = .ok (.getfield 38, 3) := by decide +kernel
theorem dX0_removeAt_9 : decode cX0_removeAt 9 = .ok (.if_icmp .lt 4, 3) := by decide +kernel
theorem dX0_removeAt_12 : decode cX0_removeAt 12 = .ok (.return_, 1) := by decide +kernel
theorem dX0_removeAt_13 : decode cX0_removeAt 13 = .ok (.iload_n 1, 1) := by decide +kernel
theorem dX0_removeAt_14 : decode cX0_removeAt 14 = .ok (.istore_n 2, 1) := by decide +kernel
theorem dX0_removeAt_15 : decode cX0_removeAt 15 = .ok (.iload_n 2, 1) := by decide +kernel
theorem dX0_removeAt_16 : decode cX0_removeAt 16 = .ok (.iconst 1, 1) := by decide +kernel
theorem dX0_removeAt_17 : decode cX0_removeAt 17 = .ok (.iadd, 1) := by decide +kernel
theorem dX0_removeAt_18 : decode cX0_removeAt 18 = .ok (.aload_n 0, 1) := by decide +kernel
theorem dX0_removeAt_19 : decode cX0_removeAt 19 = .ok (.getfield 38, 3) := by decide +kernel
theorem dX0_removeAt_22 : decode cX0_removeAt 22 = .ok (.if_icmp .ge 34, 3) := by decide +kernel
theorem dX0_removeAt_25 : decode cX0_removeAt 25 = .ok (.iload_n 2, 1) := by decide +kernel
theorem dX0_removeAt_26 : decode cX0_removeAt 26 = .ok (.iconst 1, 1) := by decide +kernel
theorem dX0_removeAt_27 : decode cX0_removeAt 27 = .ok (.iadd, 1) := by decide +kernel
theorem dX0_removeAt_28 : decode cX0_removeAt 28 = .ok (.aload_n 0, 1) := by decide +kernel
theorem dX0_removeAt_29 : decode cX0_removeAt 29 = .ok (.getfield 9, 3) := by decide +kernel
theorem dX0_removeAt_32 : decode cX0_removeAt 32 = .ok (.arraylength, 1) := by decide +kernel
theorem dX0_removeAt_33 : decode cX0_removeAt 33 = .ok (.if_icmp .ge 23, 3) := by decide +kernel
theorem dX0_removeAt_36 : decode cX0_removeAt 36 = .ok (.aload_n 0, 1) := by decide +kernel
theorem dX0_removeAt_37 : decode cX0_removeAt 37 = .ok (.getfield 9, 3) := by decide +kernel
theorem dX0_removeAt_40 : decode cX0_removeAt 40 = .ok (.iload_n 2, 1) := by decide +kernel
theorem dX0_removeAt_41 : decode cX0_removeAt 41 = .ok (.aload_n 0, 1) := by decide +kernel
theorem dX0_removeAt_42 : decode cX0_removeAt 42 = .ok (.getfield 9, 3) := by decide +kernel
theorem dX0_removeAt_45 : decode cX0_removeAt 45 = .ok (.iload_n 2, 1) := by decide +kernel
theorem dX0_removeAt_46 : decode cX0_removeAt 46 = .ok (.iconst 1, 1) := by decide +kernel
theorem dX0_removeAt_47 : decode cX0_removeAt 47 = .ok (.iadd, 1) := by decide +kernel
theorem dX0_removeAt_48 : decode cX0_removeAt 48 = .ok (.iaload, 1) := by decide +kernel
theorem dX0_removeAt_49 : decode cX0_removeAt 49 = .ok (.iastore, 1) := by decide +kernel
theorem dX0_removeAt_50 : decode cX0_removeAt 50 = .ok (.iinc 2 1, 3) := by decide +kernel
theorem dX0_removeAt_53 : decode cX0_removeAt 53 = .ok (.goto (-38), 3) := by decide +kernel
theorem dX0_removeAt_56 : decode cX0_removeAt 56 = .ok (.aload_n 0, 1) := by decide +kernel
theorem dX0_removeAt_57 : decode cX0_removeAt 57 = .ok (.dup, 1) := by decide +kernel
theorem dX0_removeAt_58 : decode cX0_removeAt 58 = .ok (.getfield 38, 3) := by decide +kernel
theorem dX0_removeAt_61 : decode cX0_removeAt 61 = .ok (.iconst 1, 1) := by decide +kernel
theorem dX0_removeAt_62 : decode cX0_removeAt 62 = .ok (.isub, 1) := by decide +kernel
theorem dX0_removeAt_63 : decode cX0_removeAt 63 = .ok (.putfield 38, 3) := by decide +kernel
theorem dX0_removeAt_66 : decode cX0_removeAt 66 = .ok (.aload_n 0, 1) := by decide +kernel
theorem dX0_removeAt_67 : decode cX0_removeAt 67 = .ok (.invokevirtual 41, 3) := by decide +kernel
theorem dX0_removeAt_70 : decode cX0_removeAt 70 = .ok (.return_, 1) := by decide +kernel
set_option maxRecDepth 20000 in
theorem ggX0_moveToFront_X0_chooseAgain : GoodIn wsX0_moveToFront wsX0_chooseAgain := goodIn_r _ [6, 7, 8, 9, 10, 11, 12, 13, 14, 5, 15, 1, 16, 17, 18, 19, 20, 21, 22, 23, 24, 25, 26, 27, 28, 29, 30, 31, 32, 33, 34] (by decide +kernel) (by decide +kernel)
set_option maxRecDepth 20000 in
theorem gX0_moveToFront_X0_chooseAgain : GoodIn wsX0_moveToFront (wsV RX0 41 RX0 yX0_chooseAgain wsX0_chooseAgain) := goodIn_app (goodIn_of _ (by decide +kernel)) ggX0_moveToFront_X0_chooseAgain
theorem dX0_moveToFront_0 : decode cX0_moveToFront 0 = .ok (.iload_n 1, 1) := by decide +kernel
theorem dX0_moveToFront_1 : decode cX0_moveToFront 1 = .ok (.ifCond .lt 12, 3) := by decide +kernel
theorem dX0_moveToFront_4 : decode cX0_moveToFront 4 = .ok (.iload_n 1, 1) := by decide +kernel
theorem dX0_moveToFront_5 : decode cX0_moveToFront 5 = .ok (.aload_n 0, 1) := by decide +kernel
theorem dX0_moveToFront_6 : decode cX0_moveToFront 6 = .ok (.getfield 9, 3) := by decide +kernel
theorem dX0_moveToFront_9 : decode cX0_moveToFront 9 = .ok (.arraylength, 1) := by decide +kernel
theorem dX0_moveToFront_10 : decode cX0_moveToFront 10 = .ok (.if_icmp .lt 4, 3) := by decide +kernel
theorem dX0_moveToFront_13 : decode cX0_moveToFront 13 = .ok (.return_, 1) := by decide +kernel
theorem dX0_moveToFront_14 : decode cX0_moveToFront 14 = .ok (.aload_n 0, 1) := by decide +kernel
theorem dX0_moveToFront_15 : decode cX0_moveToFront 15 = .ok (.getfield 9, 3) := by decide +kernel
theorem dX0_moveToFront_18 : decode cX0_moveToFront 18 = .ok (.iload_n 1, 1) := by decide +kernel
theorem dX0_moveToFront_19 : decode cX0_moveToFront 19 = .ok (.iaload, 1) := by decide +kernel
theorem dX0_moveToFront_20 : decode cX0_moveToFront 20 = .ok (.istore_n 2, 1) := by decide +kernel
theorem dX0_moveToFront_21 : decode cX0_moveToFront 21 = .ok (.iload_n 1, 1) := by decide +kernel
theorem dX0_moveToFront_22 : decode cX0_moveToFront 22 = .ok (.istore_n 3, 1) := by decide +kernel
theorem dX0_moveToFront_23 : decode cX0_moveToFront 23 = .ok (.iload_n 3, 1) := by decide +kernel
theorem dX0_moveToFront_24 : decode cX0_moveToFront 24 = .ok (.ifCond .le 23, 3) := by decide +kernel
theorem dX0_moveToFront_27 : decode cX0_moveToFront 27 = .ok (.aload_n 0, 1) := by decide +kernel
theorem dX0_moveToFront_28 : decode cX0_moveToFront 28 = .ok (.getfield 9, 3) := by decide +kernel
theorem dX0_moveToFront_31 : decode cX0_moveToFront 31 = .ok (.iload_n 3, 1) := by decide +kernel
theorem dX0_moveToFront_32 : decode cX0_moveToFront 32 = .ok (.aload_n 0, 1) := by decide +kernel
theorem dX0_moveToFront_33 : decode cX0_moveToFront 33 = .ok (.getfield 9, 3) := by decide +kernel
theorem dX0_moveToFront_36 : decode cX0_moveToFront 36 = .ok (.iload_n 3, 1) := by decide +kernel
theorem dX0_moveToFront_37 : decode cX0_moveToFront 37 = .ok (.iconst 1, 1) := by decide +kernel
theorem dX0_moveToFront_38 : decode cX0_moveToFront 38 = .ok (.isub, 1) := by decide +kernel
theorem dX0_moveToFront_39 : decode cX0_moveToFront 39 = .ok (.iaload, 1) := by decide +kernel
theorem dX0_moveToFront_40 : decode cX0_moveToFront 40 = .ok (.iastore, 1) := by decide +kernel
theorem dX0_moveToFront_41 : decode cX0_moveToFront 41 = .ok (.iinc 3 (-1), 3) := by decide +kernel
theorem dX0_moveToFront_44 : decode cX0_moveToFront 44 = .ok (.goto (-21), 3) := by decide +kernel
theorem dX0_moveToFront_47 : decode cX0_moveToFront 47 = .ok (.aload_n 0, 1) := by decide +kernel
theorem dX0_moveToFront_48 : decode cX0_moveToFront 48 = .ok (.getfield 9, 3) := by decide +kernel
theorem dX0_moveToFront_51 : decode cX0_moveToFront 51 = .ok (.iconst 0, 1) := by decide +kernel
theorem dX0_moveToFront_52 : decode cX0_moveToFront 52 = .ok (.iload_n 2, 1) := by decide +kernel
theorem dX0_moveToFront_53 : decode cX0_moveToFront 53 = .ok (.iastore, 1) := by decide +kernel
theorem dX0_moveToFront_54 : decode cX0_moveToFront 54 = .ok (.aload_n 0, 1) := by decide +kernel
theorem dX0_moveToFront_55 : decode cX0_moveToFront 55 = .ok (.invokevirtual 41, 3) := by decide +kernel
theorem dX0_moveToFront_58 : decode cX0_moveToFront 58 = .ok (.return_, 1) := by decide +kernel
set_option maxRecDepth 20000 in
theorem ggX0_chooseAgain_X0_listed : GoodIn wsX0_chooseAgain wsX0_listed := goodIn_r _ [10, 11, 24, 25, 26, 27, 28, 29, 30] (by decide +kernel) (by decide +kernel)
set_option maxRecDepth 20000 in
theorem gX0_chooseAgain_X0_listed : GoodIn wsX0_chooseAgain (wsV RX0 45 RX0 yX0_listed wsX0_listed) := goodIn_app (goodIn_of _ (by decide +kernel)) ggX0_chooseAgain_X0_listed
set_option maxRecDepth 20000 in
theorem ggX0_chooseAgain_X0_residueOf : GoodIn wsX0_chooseAgain wsX0_residueOf := goodIn_r _ [15, 5, 16, 17, 18, 19, 24, 25, 26, 27, 28, 29, 30] (by decide +kernel) (by decide +kernel)
set_option maxRecDepth 20000 in
theorem gX0_chooseAgain_X0_residueOf : GoodIn wsX0_chooseAgain (wsV RX0 48 RX0 yX0_residueOf wsX0_residueOf) := goodIn_app (goodIn_of _ (by decide +kernel)) ggX0_chooseAgain_X0_residueOf
set_option maxRecDepth 20000 in
theorem ggX0_chooseAgain_X0_digitFor : GoodIn wsX0_chooseAgain wsX0_digitFor := goodIn_r _ [23, 5, 1, 2, 16, 17, 18, 19, 24, 25, 26, 27, 28, 29, 30] (by decide +kernel) (by decide +kernel)
set_option maxRecDepth 20000 in
theorem gX0_chooseAgain_X0_digitFor : GoodIn wsX0_chooseAgain (wsV RX0 55 RX0 yX0_digitFor wsX0_digitFor) := goodIn_app (goodIn_of _ (by decide +kernel)) ggX0_chooseAgain_X0_digitFor
theorem dX0_chooseAgain_0 : decode cX0_chooseAgain 0 = .ok (.iconst 0, 1) := by decide +kernel
theorem dX0_chooseAgain_1 : decode cX0_chooseAgain 1 = .ok (.istore_n 1, 1) := by decide +kernel
theorem dX0_chooseAgain_2 : decode cX0_chooseAgain 2 = .ok (.iload_n 1, 1) := by decide +kernel
theorem dX0_chooseAgain_3 : decode cX0_chooseAgain 3 = .ok (.aload_n 0, 1) := by decide +kernel
theorem dX0_chooseAgain_4 : decode cX0_chooseAgain 4 = .ok (.getfield 15, 3) := by decide +kernel
theorem dX0_chooseAgain_7 : decode cX0_chooseAgain 7 = .ok (.arraylength, 1) := by decide +kernel
theorem dX0_chooseAgain_8 : decode cX0_chooseAgain 8 = .ok (.if_icmp .ge 17, 3) := by decide +kernel
theorem dX0_chooseAgain_11 : decode cX0_chooseAgain 11 = .ok (.aload_n 0, 1) := by decide +kernel
theorem dX0_chooseAgain_12 : decode cX0_chooseAgain 12 = .ok (.getfield 15, 3) := by decide +kernel
theorem dX0_chooseAgain_15 : decode cX0_chooseAgain 15 = .ok (.iload_n 1, 1) := by decide +kernel
theorem dX0_chooseAgain_16 : decode cX0_chooseAgain 16 = .ok (.ldc 44, 2) := by decide +kernel
theorem dX0_chooseAgain_18 : decode cX0_chooseAgain 18 = .ok (.iastore, 1) := by decide +kernel
theorem dX0_chooseAgain_19 : decode cX0_chooseAgain 19 = .ok (.iinc 1 1, 3) := by decide +kernel
theorem dX0_chooseAgain_22 : decode cX0_chooseAgain 22 = .ok (.goto (-20), 3) := by decide +kernel
theorem dX0_chooseAgain_25 : decode cX0_chooseAgain 25 = .ok (.aload_n 0, 1) := by decide +kernel
theorem dX0_chooseAgain_26 : decode cX0_chooseAgain 26 = .ok (.getfield 38, 3) := by decide +kernel
theorem dX0_chooseAgain_29 : decode cX0_chooseAgain 29 = .ok (.iconst 1, 1) := by decide +kernel
theorem dX0_chooseAgain_30 : decode cX0_chooseAgain 30 = .ok (.isub, 1) := by decide +kernel
theorem dX0_chooseAgain_31 : decode cX0_chooseAgain 31 = .ok (.istore_n 1, 1) := by decide +kernel
theorem dX0_chooseAgain_32 : decode cX0_chooseAgain 32 = .ok (.iload_n 1, 1) := by decide +kernel
theorem dX0_chooseAgain_33 : decode cX0_chooseAgain 33 = .ok (.ifCond .lt 41, 3) := by decide +kernel
theorem dX0_chooseAgain_36 : decode cX0_chooseAgain 36 = .ok (.aload_n 0, 1) := by decide +kernel
theorem dX0_chooseAgain_37 : decode cX0_chooseAgain 37 = .ok (.iload_n 1, 1) := by decide +kernel
theorem dX0_chooseAgain_38 : decode cX0_chooseAgain 38 = .ok (.invokevirtual 45, 3) := by decide +kernel
theorem dX0_chooseAgain_41 : decode cX0_chooseAgain 41 = .ok (.istore_n 2, 1) := by decide +kernel
theorem dX0_chooseAgain_42 : decode cX0_chooseAgain 42 = .ok (.aload_n 0, 1) := by decide +kernel
theorem dX0_chooseAgain_43 : decode cX0_chooseAgain 43 = .ok (.iload_n 2, 1) := by decide +kernel
theorem dX0_chooseAgain_44 : decode cX0_chooseAgain 44 = .ok (.invokevirtual 48, 3) := by decide +kernel
theorem dX0_chooseAgain_47 : decode cX0_chooseAgain 47 = .ok (.istore_n 3, 1) := by decide +kernel
theorem dX0_chooseAgain_48 : decode cX0_chooseAgain 48 = .ok (.iload_n 3, 1) := by decide +kernel
theorem dX0_chooseAgain_49 : decode cX0_chooseAgain 49 = .ok (.ifCond .lt 19, 3) := by decide +kernel
theorem dX0_chooseAgain_52 : decode cX0_chooseAgain 52 = .ok (.iload_n 3, 1) := by decide +kernel
theorem dX0_chooseAgain_53 : decode cX0_chooseAgain 53 = .ok (.aload_n 0, 1) := by decide +kernel
theorem dX0_chooseAgain_54 : decode cX0_chooseAgain 54 = .ok (.getfield 15, 3) := by decide +kernel
theorem dX0_chooseAgain_57 : decode cX0_chooseAgain 57 = .ok (.arraylength, 1) := by decide +kernel
theorem dX0_chooseAgain_58 : decode cX0_chooseAgain 58 = .ok (.if_icmp .ge 10, 3) := by decide +kernel
theorem dX0_chooseAgain_61 : decode cX0_chooseAgain 61 = .ok (.aload_n 0, 1) := by decide +kernel
theorem dX0_chooseAgain_62 : decode cX0_chooseAgain 62 = .ok (.getfield 15, 3) := by decide +kernel
theorem dX0_chooseAgain_65 : decode cX0_chooseAgain 65 = .ok (.iload_n 3, 1) := by decide +kernel
theorem dX0_chooseAgain_66 : decode cX0_chooseAgain 66 = .ok (.iload_n 2, 1) := by decide +kernel
theorem dX0_chooseAgain_67 : decode cX0_chooseAgain 67 = .ok (.iastore, 1) := by decide +kernel
theorem dX0_chooseAgain_68 : decode cX0_chooseAgain 68 = .ok (.iinc 1 (-1), 3) := by decide +kernel
theorem dX0_chooseAgain_71 : decode cX0_chooseAgain 71 = .ok (.goto (-39), 3) := by decide +kernel
theorem dX0_chooseAgain_74 : decode cX0_chooseAgain 74 = .ok (.aload_n 0, 1) := by decide +kernel
theorem dX0_chooseAgain_75 : decode cX0_chooseAgain 75 = .ok (.iconst 1, 1) := by decide +kernel
theorem dX0_chooseAgain_76 : decode cX0_chooseAgain 76 = .ok (.putfield 51, 3) := by decide +kernel
theorem dX0_chooseAgain_79 : decode cX0_chooseAgain 79 = .ok (.iconst 0, 1) := by decide +kernel
theorem dX0_chooseAgain_80 : decode cX0_chooseAgain 80 = .ok (.istore_n 1, 1) := by decide +kernel
theorem dX0_chooseAgain_81 : decode cX0_chooseAgain 81 = .ok (.iload_n 1, 1) := by decide +kernel
theorem dX0_chooseAgain_82 : decode cX0_chooseAgain 82 = .ok (.aload_n 0, 1) := by decide +kernel
theorem dX0_chooseAgain_83 : decode cX0_chooseAgain 83 = .ok (.getfield 35, 3) := by decide +kernel
theorem dX0_chooseAgain_86 : decode cX0_chooseAgain 86 = .ok (.if_icmp .ge 24, 3) := by decide +kernel
theorem dX0_chooseAgain_89 : decode cX0_chooseAgain 89 = .ok (.aload_n 0, 1) := by decide +kernel
theorem dX0_chooseAgain_90 : decode cX0_chooseAgain 90 = .ok (.iload_n 1, 1) := by decide +kernel
theorem dX0_chooseAgain_91 : decode cX0_chooseAgain 91 = .ok (.invokevirtual 55, 3) := by decide +kernel
theorem dX0_chooseAgain_94 : decode cX0_chooseAgain 94 = .ok (.ldc 44, 2) := by decide +kernel
theorem dX0_chooseAgain_96 : decode cX0_chooseAgain 96 = .ok (.if_icmp .ne 8, 3) := by decide +kernel
theorem dX0_chooseAgain_99 : decode cX0_chooseAgain 99 = .ok (.aload_n 0, 1) := by decide +kernel
theorem dX0_chooseAgain_100 : decode cX0_chooseAgain 100 = .ok (.iconst 0, 1) := by decide +kernel
theorem dX0_chooseAgain_101 : decode cX0_chooseAgain 101 = .ok (.putfield 51, 3) := by decide +kernel
theorem dX0_chooseAgain_104 : decode cX0_chooseAgain 104 = .ok (.iinc 1 1, 3) := by decide +kernel
theorem dX0_chooseAgain_107 : decode cX0_chooseAgain 107 = .ok (.goto (-26), 3) := by decide +kernel
theorem dX0_chooseAgain_110 : decode cX0_chooseAgain 110 = .ok (.return_, 1) := by decide +kernel
set_option maxRecDepth 20000 in
theorem ggX0_residueOf_J9_floorMod_7cf53 : GoodIn wsX0_residueOf wsJ9_floorMod_7cf53 := goodIn_r _ [5] (by decide +kernel) (by decide +kernel)
set_option maxRecDepth 20000 in
theorem gX0_residueOf_J9_floorMod_7cf53 : GoodIn wsX0_residueOf (va_wsS RX0 58 yJ9_floorMod_7cf53 wsJ9_floorMod_7cf53) := goodIn_app (goodIn_of _ (by decide +kernel)) ggX0_residueOf_J9_floorMod_7cf53
theorem dX0_residueOf_0 : decode cX0_residueOf 0 = .ok (.aload_n 0, 1) := by decide +kernel
theorem dX0_residueOf_1 : decode cX0_residueOf 1 = .ok (.getfield 35, 3) := by decide +kernel
theorem dX0_residueOf_4 : decode cX0_residueOf 4 = .ok (.ifCond .ne 7, 3) := by decide +kernel
theorem dX0_residueOf_7 : decode cX0_residueOf 7 = .ok (.iconst 0, 1) := by decide +kernel
theorem dX0_residueOf_8 : decode cX0_residueOf 8 = .ok (.goto 11, 3) := by decide +kernel
theorem dX0_residueOf_11 : decode cX0_residueOf 11 = .ok (.iload_n 1, 1) := by decide +kernel
theorem dX0_residueOf_12 : decode cX0_residueOf 12 = .ok (.aload_n 0, 1) := by decide +kernel
theorem dX0_residueOf_13 : decode cX0_residueOf 13 = .ok (.getfield 35, 3) := by decide +kernel
theorem dX0_residueOf_16 : decode cX0_residueOf 16 = .ok (.invokestatic 58, 3) := by decide +kernel
theorem dX0_residueOf_19 : decode cX0_residueOf 19 = .ok (.ireturn, 1) := by decide +kernel
set_option maxRecDepth 20000 in
theorem ggX0_digitFor_J9_floorMod_7cf53 : GoodIn wsX0_digitFor wsJ9_floorMod_7cf53 := goodIn_r _ [7] (by decide +kernel) (by decide +kernel)
set_option maxRecDepth 20000 in
theorem gX0_digitFor_J9_floorMod_7cf53 : GoodIn wsX0_digitFor (va_wsS RX0 58 yJ9_floorMod_7cf53 wsJ9_floorMod_7cf53) := goodIn_app (goodIn_of _ (by decide +kernel)) ggX0_digitFor_J9_floorMod_7cf53
theorem dX0_digitFor_0 : decode cX0_digitFor 0 = .ok (.aload_n 0, 1) := by decide +kernel
theorem dX0_digitFor_1 : decode cX0_digitFor 1 = .ok (.getfield 35, 3) := by decide +kernel
theorem dX0_digitFor_4 : decode cX0_digitFor 4 = .ok (.ifCond .ne 7, 3) := by decide +kernel
theorem dX0_digitFor_7 : decode cX0_digitFor 7 = .ok (.iconst 0, 1) := by decide +kernel
theorem dX0_digitFor_8 : decode cX0_digitFor 8 = .ok (.goto 11, 3) := by decide +kernel
theorem dX0_digitFor_11 : decode cX0_digitFor 11 = .ok (.iload_n 1, 1) := by decide +kernel
theorem dX0_digitFor_12 : decode cX0_digitFor 12 = .ok (.aload_n 0, 1) := by decide +kernel
theorem dX0_digitFor_13 : decode cX0_digitFor 13 = .ok (.getfield 35, 3) := by decide +kernel
theorem dX0_digitFor_16 : decode cX0_digitFor 16 = .ok (.invokestatic 58, 3) := by decide +kernel
theorem dX0_digitFor_19 : decode cX0_digitFor 19 = .ok (.istore_n 2, 1) := by decide +kernel
theorem dX0_digitFor_20 : decode cX0_digitFor 20 = .ok (.iload_n 2, 1) := by decide +kernel
theorem dX0_digitFor_21 : decode cX0_digitFor 21 = .ok (.ifCond .lt 21, 3) := by decide +kernel
theorem dX0_digitFor_24 : decode cX0_digitFor 24 = .ok (.iload_n 2, 1) := by decide +kernel
theorem dX0_digitFor_25 : decode cX0_digitFor 25 = .ok (.aload_n 0, 1) := by decide +kernel
theorem dX0_digitFor_26 : decode cX0_digitFor 26 = .ok (.getfield 15, 3) := by decide +kernel
theorem dX0_digitFor_29 : decode cX0_digitFor 29 = .ok (.arraylength, 1) := by decide +kernel
theorem dX0_digitFor_30 : decode cX0_digitFor 30 = .ok (.if_icmp .ge 12, 3) := by decide +kernel
theorem dX0_digitFor_33 : decode cX0_digitFor 33 = .ok (.aload_n 0, 1) := by decide +kernel
theorem dX0_digitFor_34 : decode cX0_digitFor 34 = .ok (.getfield 15, 3) := by decide +kernel
theorem dX0_digitFor_37 : decode cX0_digitFor 37 = .ok (.iload_n 2, 1) := by decide +kernel
theorem dX0_digitFor_38 : decode cX0_digitFor 38 = .ok (.iaload, 1) := by decide +kernel
theorem dX0_digitFor_39 : decode cX0_digitFor 39 = .ok (.goto 5, 3) := by decide +kernel
theorem dX0_digitFor_42 : decode cX0_digitFor 42 = .ok (.ldc 44, 2) := by decide +kernel
theorem dX0_digitFor_44 : decode cX0_digitFor 44 = .ok (.ireturn, 1) := by decide +kernel
theorem dX0_divides_0 : decode cX0_divides 0 = .ok (.aload_n 0, 1) := by decide +kernel
theorem dX0_divides_1 : decode cX0_divides 1 = .ok (.getfield 22, 3) := by decide +kernel
theorem dX0_divides_4 : decode cX0_divides 4 = .ok (.ifCond .eq 16, 3) := by decide +kernel
theorem dX0_divides_7 : decode cX0_divides 7 = .ok (.iload_n 1, 1) := by decide +kernel
theorem dX0_divides_8 : decode cX0_divides 8 = .ok (.aload_n 0, 1) := by decide +kernel
theorem dX0_divides_9 : decode cX0_divides 9 = .ok (.getfield 22, 3) := by decide +kernel
theorem dX0_divides_12 : decode cX0_divides 12 = .ok (.irem, 1) := by decide +kernel
theorem dX0_divides_13 : decode cX0_divides 13 = .ok (.ifCond .ne 7, 3) := by decide +kernel
theorem dX0_divides_16 : decode cX0_divides 16 = .ok (.iconst 1, 1) := by decide +kernel
theorem dX0_divides_17 : decode cX0_divides 17 = .ok (.goto 4, 3) := by decide +kernel
theorem dX0_divides_20 : decode cX0_divides 20 = .ok (.iconst 0, 1) := by decide +kernel
theorem dX0_divides_21 : decode cX0_divides 21 = .ok (.ireturn, 1) := by decide +kernel
theorem dX0_quotient_0 : decode cX0_quotient 0 = .ok (.aload_n 0, 1) := by decide +kernel
theorem dX0_quotient_1 : decode cX0_quotient 1 = .ok (.getfield 22, 3) := by decide +kernel
theorem dX0_quotient_4 : decode cX0_quotient 4 = .ok (.ifCond .ne 7, 3) := by decide +kernel
theorem dX0_quotient_7 : decode cX0_quotient 7 = .ok (.iconst 0, 1) := by decide +kernel
theorem dX0_quotient_8 : decode cX0_quotient 8 = .ok (.goto 9, 3) := by decide +kernel
theorem dX0_quotient_11 : decode cX0_quotient 11 = .ok (.iload_n 1, 1) := by decide +kernel
theorem dX0_quotient_12 : decode cX0_quotient 12 = .ok (.aload_n 0, 1) := by decide +kernel
theorem dX0_quotient_13 : decode cX0_quotient 13 = .ok (.getfield 22, 3) := by decide +kernel
theorem dX0_quotient_16 : decode cX0_quotient 16 = .ok (.idiv, 1) := by decide +kernel
theorem dX0_quotient_17 : decode cX0_quotient 17 = .ok (.ireturn, 1) := by decide +kernel
set_option maxRecDepth 20000 in
theorem ggX0_carryBehind_X0_digitFor : GoodIn wsX0_carryBehind wsX0_digitFor := goodIn_r _ [6, 7, 8, 9, 10, 11, 12, 13, 19, 20, 21, 22, 23, 24, 25] (by decide +kernel) (by decide +kernel)
set_option maxRecDepth 20000 in
theorem gX0_carryBehind_X0_digitFor : GoodIn wsX0_carryBehind (wsV RX0 55 RX0 yX0_digitFor wsX0_digitFor) := goodIn_app (goodIn_of _ (by decide +kernel)) ggX0_carryBehind_X0_digitFor
set_option maxRecDepth 20000 in
theorem ggX0_carryBehind_X0_quotient : GoodIn wsX0_carryBehind wsX0_quotient := goodIn_r _ [17, 18, 19, 20, 21, 22, 23, 24, 25] (by decide +kernel) (by decide +kernel)
set_option maxRecDepth 20000 in
theorem gX0_carryBehind_X0_quotient : GoodIn wsX0_carryBehind (wsV RX0 62 RX0 yX0_quotient wsX0_quotient) := goodIn_app (goodIn_of _ (by decide +kernel)) ggX0_carryBehind_X0_quotient
theorem dX0_carryBehind_0 : decode cX0_carryBehind 0 = .ok (.iload_n 2, 1) := by decide +kernel
theorem dX0_carryBehind_1 : decode cX0_carryBehind 1 = .ok (.aload_n 0, 1) := by decide +kernel
theorem dX0_carryBehind_2 : decode cX0_carryBehind 2 = .ok (.getfield 26, 3) := by decide +kernel
theorem dX0_carryBehind_5 : decode cX0_carryBehind 5 = .ok (.iload_n 1, 1) := by decide +kernel
theorem dX0_carryBehind_6 : decode cX0_carryBehind 6 = .ok (.imul, 1) := by decide +kernel
theorem dX0_carryBehind_7 : decode cX0_carryBehind 7 = .ok (.iadd, 1) := by decide +kernel
theorem dX0_carryBehind_8 : decode cX0_carryBehind 8 = .ok (.istore_n 3, 1) := by decide +kernel
theorem dX0_carryBehind_9 : decode cX0_carryBehind 9 = .ok (.aload_n 0, 1) := by decide +kernel
theorem dX0_carryBehind_10 : decode cX0_carryBehind 10 = .ok (.iload_n 3, 1) := by decide +kernel
theorem dX0_carryBehind_11 : decode cX0_carryBehind 11 = .ok (.aload_n 0, 1) := by decide +kernel
theorem dX0_carryBehind_12 : decode cX0_carryBehind 12 = .ok (.iload_n 3, 1) := by decide +kernel
theorem dX0_carryBehind_13 : decode cX0_carryBehind 13 = .ok (.invokevirtual 55, 3) := by decide +kernel
theorem dX0_carryBehind_16 : decode cX0_carryBehind 16 = .ok (.isub, 1) := by decide +kernel
theorem dX0_carryBehind_17 : decode cX0_carryBehind 17 = .ok (.invokevirtual 62, 3) := by decide +kernel
theorem dX0_carryBehind_20 : decode cX0_carryBehind 20 = .ok (.ireturn, 1) := by decide +kernel
set_option maxRecDepth 20000 in
theorem ggX0_keepsZero_X0_digitFor : GoodIn wsX0_keepsZero wsX0_digitFor := goodIn_r _ [5, 6, 7, 8, 9, 10, 11, 12, 13, 14, 15, 16, 17, 18, 19] (by decide +kernel) (by decide +kernel)
set_option maxRecDepth 20000 in
theorem gX0_keepsZero_X0_digitFor : GoodIn wsX0_keepsZero (wsV RX0 55 RX0 yX0_digitFor wsX0_digitFor) := goodIn_app (goodIn_of _ (by decide +kernel)) ggX0_keepsZero_X0_digitFor
theorem dX0_keepsZero_0 : decode cX0_keepsZero 0 = .ok (.aload_n 0, 1) := by decide +kernel
theorem dX0_keepsZero_1 : decode cX0_keepsZero 1 = .ok (.iconst 0, 1) := by decide +kernel
theorem dX0_keepsZero_2 : decode cX0_keepsZero 2 = .ok (.invokevirtual 55, 3) := by decide +kernel
theorem dX0_keepsZero_5 : decode cX0_keepsZero 5 = .ok (.ifCond .ne 7, 3) := by decide +kernel
theorem dX0_keepsZero_8 : decode cX0_keepsZero 8 = .ok (.iconst 1, 1) := by decide +kernel
theorem dX0_keepsZero_9 : decode cX0_keepsZero 9 = .ok (.goto 4, 3) := by decide +kernel
theorem dX0_keepsZero_12 : decode cX0_keepsZero 12 = .ok (.iconst 0, 1) := by decide +kernel
theorem dX0_keepsZero_13 : decode cX0_keepsZero 13 = .ok (.ireturn, 1) := by decide +kernel
set_option maxRecDepth 20000 in
theorem ggX0_leastDigit_X0_listed : GoodIn wsX0_leastDigit wsX0_listed := goodIn_r _ [10, 11, 12, 13, 14, 15, 16, 17, 18] (by decide +kernel) (by decide +kernel)
set_option maxRecDepth 20000 in
theorem gX0_leastDigit_X0_listed : GoodIn wsX0_leastDigit (wsV RX0 45 RX0 yX0_listed wsX0_listed) := goodIn_app (goodIn_of _ (by decide +kernel)) ggX0_leastDigit_X0_listed
theorem dX0_leastDigit_0 : decode cX0_leastDigit 0 = .ok (.bipush 20, 2) := by decide +kernel
theorem dX0_leastDigit_2 : decode cX0_leastDigit 2 = .ok (.istore_n 1, 1) := by decide +kernel
theorem dX0_leastDigit_3 : decode cX0_leastDigit 3 = .ok (.iconst 0, 1) := by decide +kernel
theorem dX0_leastDigit_4 : decode cX0_leastDigit 4 = .ok (.istore_n 2, 1) := by decide +kernel
theorem dX0_leastDigit_5 : decode cX0_leastDigit 5 = .ok (.iload_n 2, 1) := by decide +kernel
theorem dX0_leastDigit_6 : decode cX0_leastDigit 6 = .ok (.aload_n 0, 1) := by decide +kernel
theorem dX0_leastDigit_7 : decode cX0_leastDigit 7 = .ok (.getfield 38, 3) := by decide +kernel
theorem dX0_leastDigit_10 : decode cX0_leastDigit 10 = .ok (.if_icmp .ge 19, 3) := by decide +kernel
theorem dX0_leastDigit_13 : decode cX0_leastDigit 13 = .ok (.iload_n 1, 1) := by decide +kernel
theorem dX0_leastDigit_14 : decode cX0_leastDigit 14 = .ok (.aload_n 0, 1) := by decide +kernel
theorem dX0_leastDigit_15 : decode cX0_leastDigit 15 = .ok (.iload_n 2, 1) := by decide +kernel
theorem dX0_leastDigit_16 : decode cX0_leastDigit 16 = .ok (.invokevirtual 45, 3) := by decide +kernel
theorem dX0_leastDigit_19 : decode cX0_leastDigit 19 = .ok (.invokestatic 65, 3) := by decide +kernel
theorem dX0_leastDigit_22 : decode cX0_leastDigit 22 = .ok (.istore_n 1, 1) := by decide +kernel
theorem dX0_leastDigit_23 : decode cX0_leastDigit 23 = .ok (.iinc 2 1, 3) := by decide +kernel
theorem dX0_leastDigit_26 : decode cX0_leastDigit 26 = .ok (.goto (-21), 3) := by decide +kernel
theorem dX0_leastDigit_29 : decode cX0_leastDigit 29 = .ok (.iload_n 1, 1) := by decide +kernel
theorem dX0_leastDigit_30 : decode cX0_leastDigit 30 = .ok (.ireturn, 1) := by decide +kernel
set_option maxRecDepth 20000 in
theorem ggX0_greatestDigit_X0_listed : GoodIn wsX0_greatestDigit wsX0_listed := goodIn_r _ [10, 11, 12, 13, 14, 15, 16, 17, 18] (by decide +kernel) (by decide +kernel)
set_option maxRecDepth 20000 in
theorem gX0_greatestDigit_X0_listed : GoodIn wsX0_greatestDigit (wsV RX0 45 RX0 yX0_listed wsX0_listed) := goodIn_app (goodIn_of _ (by decide +kernel)) ggX0_greatestDigit_X0_listed
theorem dX0_greatestDigit_0 : decode cX0_greatestDigit 0 = .ok (.bipush (-20), 2) := by decide +kernel
theorem dX0_greatestDigit_2 : decode cX0_greatestDigit 2 = .ok (.istore_n 1, 1) := by decide +kernel
theorem dX0_greatestDigit_3 : decode cX0_greatestDigit 3 = .ok (.iconst 0, 1) := by decide +kernel
theorem dX0_greatestDigit_4 : decode cX0_greatestDigit 4 = .ok (.istore_n 2, 1) := by decide +kernel
theorem dX0_greatestDigit_5 : decode cX0_greatestDigit 5 = .ok (.iload_n 2, 1) := by decide +kernel
theorem dX0_greatestDigit_6 : decode cX0_greatestDigit 6 = .ok (.aload_n 0, 1) := by decide +kernel
theorem dX0_greatestDigit_7 : decode cX0_greatestDigit 7 = .ok (.getfield 38, 3) := by decide +kernel
theorem dX0_greatestDigit_10 : decode cX0_greatestDigit 10 = .ok (.if_icmp .ge 19, 3) := by decide +kernel
theorem dX0_greatestDigit_13 : decode cX0_greatestDigit 13 = .ok (.iload_n 1, 1) := by decide +kernel
theorem dX0_greatestDigit_14 : decode cX0_greatestDigit 14 = .ok (.aload_n 0, 1) := by decide +kernel
theorem dX0_greatestDigit_15 : decode cX0_greatestDigit 15 = .ok (.iload_n 2, 1) := by decide +kernel
theorem dX0_greatestDigit_16 : decode cX0_greatestDigit 16 = .ok (.invokevirtual 45, 3) := by decide +kernel
theorem dX0_greatestDigit_19 : decode cX0_greatestDigit 19 = .ok (.invokestatic 68, 3) := by decide +kernel
theorem dX0_greatestDigit_22 : decode cX0_greatestDigit 22 = .ok (.istore_n 1, 1) := by decide +kernel
theorem dX0_greatestDigit_23 : decode cX0_greatestDigit 23 = .ok (.iinc 2 1, 3) := by decide +kernel
theorem dX0_greatestDigit_26 : decode cX0_greatestDigit 26 = .ok (.goto (-21), 3) := by decide +kernel
theorem dX0_greatestDigit_29 : decode cX0_greatestDigit 29 = .ok (.iload_n 1, 1) := by decide +kernel
theorem dX0_greatestDigit_30 : decode cX0_greatestDigit 30 = .ok (.ireturn, 1) := by decide +kernel
set_option maxRecDepth 20000 in
theorem ggX0_greatestAbsoluteDigit_X0_listed : GoodIn wsX0_greatestAbsoluteDigit wsX0_listed := goodIn_r _ [13, 14, 15, 16, 17, 18, 19, 20, 21] (by decide +kernel) (by decide +kernel)
set_option maxRecDepth 20000 in
theorem gX0_greatestAbsoluteDigit_X0_listed : GoodIn wsX0_greatestAbsoluteDigit (wsV RX0 45 RX0 yX0_listed wsX0_listed) := goodIn_app (goodIn_of _ (by decide +kernel)) ggX0_greatestAbsoluteDigit_X0_listed
theorem dX0_greatestAbsoluteDigit_0 : decode cX0_greatestAbsoluteDigit 0 = .ok (.iconst 0, 1) := by decide +kernel
theorem dX0_greatestAbsoluteDigit_1 : decode cX0_greatestAbsoluteDigit 1 = .ok (.istore_n 1, 1) := by decide +kernel
theorem dX0_greatestAbsoluteDigit_2 : decode cX0_greatestAbsoluteDigit 2 = .ok (.iconst 0, 1) := by decide +kernel
theorem dX0_greatestAbsoluteDigit_3 : decode cX0_greatestAbsoluteDigit 3 = .ok (.istore_n 2, 1) := by decide +kernel
theorem dX0_greatestAbsoluteDigit_4 : decode cX0_greatestAbsoluteDigit 4 = .ok (.iload_n 2, 1) := by decide +kernel
theorem dX0_greatestAbsoluteDigit_5 : decode cX0_greatestAbsoluteDigit 5 = .ok (.aload_n 0, 1) := by decide +kernel
theorem dX0_greatestAbsoluteDigit_6 : decode cX0_greatestAbsoluteDigit 6 = .ok (.getfield 38, 3) := by decide +kernel
theorem dX0_greatestAbsoluteDigit_9 : decode cX0_greatestAbsoluteDigit 9 = .ok (.if_icmp .ge 22, 3) := by decide +kernel
theorem dX0_greatestAbsoluteDigit_12 : decode cX0_greatestAbsoluteDigit 12 = .ok (.iload_n 1, 1) := by decide +kernel
theorem dX0_greatestAbsoluteDigit_13 : decode cX0_greatestAbsoluteDigit 13 = .ok (.aload_n 0, 1) := by decide +kernel
theorem dX0_greatestAbsoluteDigit_14 : decode cX0_greatestAbsoluteDigit 14 = .ok (.iload_n 2, 1) := by decide +kernel
theorem dX0_greatestAbsoluteDigit_15 : decode cX0_greatestAbsoluteDigit 15 = .ok (.invokevirtual 45, 3) := by decide +kernel
theorem dX0_greatestAbsoluteDigit_18 : decode cX0_greatestAbsoluteDigit 18 = .ok (.invokestatic 29, 3) := by decide +kernel
theorem dX0_greatestAbsoluteDigit_21 : decode cX0_greatestAbsoluteDigit 21 = .ok (.invokestatic 68, 3) := by decide +kernel
theorem dX0_greatestAbsoluteDigit_24 : decode cX0_greatestAbsoluteDigit 24 = .ok (.istore_n 1, 1) := by decide +kernel
theorem dX0_greatestAbsoluteDigit_25 : decode cX0_greatestAbsoluteDigit 25 = .ok (.iinc 2 1, 3) := by decide +kernel
theorem dX0_greatestAbsoluteDigit_28 : decode cX0_greatestAbsoluteDigit 28 = .ok (.goto (-24), 3) := by decide +kernel
theorem dX0_greatestAbsoluteDigit_31 : decode cX0_greatestAbsoluteDigit 31 = .ok (.iload_n 1, 1) := by decide +kernel
theorem dX0_greatestAbsoluteDigit_32 : decode cX0_greatestAbsoluteDigit 32 = .ok (.ireturn, 1) := by decide +kernel
theorem dX1_init_0 : decode cX1_init 0 = .ok (.aload_n 0, 1) := by decide +kernel
theorem dX1_init_1 : decode cX1_init 1 = .ok (.invokespecial 3, 3) := by decide +kernel
theorem dX1_init_4 : decode cX1_init 4 = .ok (.aload_n 0, 1) := by decide +kernel
theorem dX1_init_5 : decode cX1_init 5 = .ok (.bipush 121, 2) := by decide +kernel
theorem dX1_init_7 : decode cX1_init 7 = .ok (.newarray .int, 2) := by decide +kernel
theorem dX1_init_9 : decode cX1_init 9 = .ok (.putfield 11, 3) := by decide +kernel
theorem dX1_init_12 : decode cX1_init 12 = .ok (.aload_n 0, 1) := by decide +kernel
theorem dX1_init_13 : decode cX1_init 13 = .ok (.bipush 121, 2) := by decide +kernel
theorem dX1_init_15 : decode cX1_init 15 = .ok (.newarray .boolean, 2) := by decide +kernel
theorem dX1_init_17 : decode cX1_init 17 = .ok (.putfield 15, 3) := by decide +kernel
theorem dX1_init_20 : decode cX1_init 20 = .ok (.aload_n 0, 1) := by decide +kernel
theorem dX1_init_21 : decode cX1_init 21 = .ok (.aload_n 1, 1) := by decide +kernel
theorem dX1_init_22 : decode cX1_init 22 = .ok (.putfield 19, 3) := by decide +kernel
theorem dX1_init_25 : decode cX1_init 25 = .ok (.return_, 1) := by decide +kernel
set_option maxRecDepth 20000 in
theorem ggX1_collect_X1_note : GoodIn wsX1_collect wsX1_note := goodIn_r _ [9, 2, 1, 3, 43, 44, 45, 46] (by decide +kernel) (by decide +kernel)
set_option maxRecDepth 20000 in
theorem gX1_collect_X1_note : GoodIn wsX1_collect (wsV RX1 27 RX1 yX1_note wsX1_note) := goodIn_app (goodIn_of _ (by decide +kernel)) ggX1_collect_X1_note
set_option maxRecDepth 20000 in
theorem ggX1_collect_X1_noteBehindTwoDigits : GoodIn wsX1_collect wsX1_noteBehindTwoDigits := goodIn_r _ [13, 4, 14, 15, 16, 17, 18, 19, 20, 21, 22, 23, 24, 25, 26, 27, 28, 29, 30, 31, 32, 33, 34, 35, 36, 37, 38, 5, 6, 7, 8, 9, 2, 1, 3, 43, 44, 45, 46, 47, 48, 49, 50, 51, 52, 53] (by decide +kernel) (by decide +kernel)
set_option maxRecDepth 20000 in
theorem gX1_collect_X1_noteBehindTwoDigits : GoodIn wsX1_collect (wsV RX1 31 RX1 yX1_noteBehindTwoDigits wsX1_noteBehindTwoDigits) := goodIn_app (goodIn_of _ (by decide +kernel)) ggX1_collect_X1_noteBehindTwoDigits
set_option maxRecDepth 20000 in
theorem ggX1_collect_X1_noteBehindOneDigit : GoodIn wsX1_collect wsX1_noteBehindOneDigit := goodIn_r _ [42, 4, 14, 15, 16, 17, 18, 19, 20, 21, 22, 23, 24, 25, 26, 27, 28, 29, 30, 31, 32, 33, 34, 35, 36, 37, 38, 5, 6, 7, 8, 9, 2, 1, 3, 43, 44, 45, 46, 47, 48, 49, 50, 51, 52, 53] (by decide +kernel) (by decide +kernel)
set_option maxRecDepth 20000 in
theorem gX1_collect_X1_noteBehindOneDigit : GoodIn wsX1_collect (wsV RX1 34 RX1 yX1_noteBehindOneDigit wsX1_noteBehindOneDigit) := goodIn_app (goodIn_of _ (by decide +kernel)) ggX1_collect_X1_noteBehindOneDigit
set_option maxRecDepth 20000 in
theorem ggX1_collect_X0_carryBehind : GoodIn wsX1_collect wsX0_carryBehind := goodIn_r _ [21, 22, 23, 24, 25, 15, 26, 27, 28, 29, 30, 31, 32, 33, 34, 35, 36, 37, 38, 47, 48, 49, 50, 51, 52, 53] (by decide +kernel) (by decide +kernel)
set_option maxRecDepth 20000 in
theorem gX1_collect_X0_carryBehind_n37 : GoodIn wsX1_collect (wsX0_carryBehind) := ggX1_collect_X0_carryBehind
theorem dX1_collect_0 : decode cX1_collect 0 = .ok (.aload_n 0, 1) := by decide +kernel
theorem dX1_collect_1 : decode cX1_collect 1 = .ok (.iconst 0, 1) := by decide +kernel
theorem dX1_collect_2 : decode cX1_collect 2 = .ok (.putfield 23, 3) := by decide +kernel
theorem dX1_collect_5 : decode cX1_collect 5 = .ok (.iconst 0, 1) := by decide +kernel
theorem dX1_collect_6 : decode cX1_collect 6 = .ok (.istore_n 1, 1) := by decide +kernel
theorem dX1_collect_7 : decode cX1_collect 7 = .ok (.iload_n 1, 1) := by decide +kernel
theorem dX1_collect_8 : decode cX1_collect 8 = .ok (.aload_n 0, 1) := by decide +kernel
theorem dX1_collect_9 : decode cX1_collect 9 = .ok (.getfield 15, 3) := by decide +kernel
theorem dX1_collect_12 : decode cX1_collect 12 = .ok (.arraylength, 1) := by decide +kernel
theorem dX1_collect_13 : decode cX1_collect 13 = .ok (.if_icmp .ge 16, 3) := by decide +kernel
theorem dX1_collect_16 : decode cX1_collect 16 = .ok (.aload_n 0, 1) := by decide +kernel
theorem dX1_collect_17 : decode cX1_collect 17 = .ok (.getfield 15, 3) := by decide +kernel
theorem dX1_collect_20 : decode cX1_collect 20 = .ok (.iload_n 1, 1) := by decide +kernel
theorem dX1_collect_21 : decode cX1_collect 21 = .ok (.iconst 0, 1) := by decide +kernel
theorem dX1_collect_22 : decode cX1_collect 22 = .ok (.bastore, 1) := by decide +kernel
theorem dX1_collect_23 : decode cX1_collect 23 = .ok (.iinc 1 1, 3) := by decide +kernel
theorem dX1_collect_26 : decode cX1_collect 26 = .ok (.goto (-19), 3) := by decide +kernel
theorem dX1_collect_29 : decode cX1_collect 29 = .ok (.aload_n 0, 1) := by decide +kernel
theorem dX1_collect_30 : decode cX1_collect 30 = .ok (.iconst 0, 1) := by decide +kernel
theorem dX1_collect_31 : decode cX1_collect 31 = .ok (.invokevirtual 27, 3) := by decide +kernel
theorem dX1_collect_34 : decode cX1_collect 34 = .ok (.iconst 0, 1) := by decide +kernel
theorem dX1_collect_35 : decode cX1_collect 35 = .ok (.istore_n 1, 1) := by decide +kernel
theorem dX1_collect_36 : decode cX1_collect 36 = .ok (.iload_n 1, 1) := by decide +kernel
theorem dX1_collect_37 : decode cX1_collect 37 = .ok (.aload_n 0, 1) := by decide +kernel
theorem dX1_collect_38 : decode cX1_collect 38 = .ok (.getfield 23, 3) := by decide +kernel
theorem dX1_collect_41 : decode cX1_collect 41 = .ok (.if_icmp .ge 28, 3) := by decide +kernel
theorem dX1_collect_44 : decode cX1_collect 44 = .ok (.iload_n 1, 1) := by decide +kernel
theorem dX1_collect_45 : decode cX1_collect 45 = .ok (.aload_n 0, 1) := by decide +kernel
theorem dX1_collect_46 : decode cX1_collect 46 = .ok (.getfield 11, 3) := by decide +kernel
theorem dX1_collect_49 : decode cX1_collect 49 = .ok (.arraylength, 1) := by decide +kernel
theorem dX1_collect_50 : decode cX1_collect 50 = .ok (.if_icmp .ge 19, 3) := by decide +kernel
theorem dX1_collect_53 : decode cX1_collect 53 = .ok (.aload_n 0, 1) := by decide +kernel
theorem dX1_collect_54 : decode cX1_collect 54 = .ok (.aload_n 0, 1) := by decide +kernel
theorem dX1_collect_55 : decode cX1_collect 55 = .ok (.getfield 11, 3) := by decide +kernel
theorem dX1_collect_58 : decode cX1_collect 58 = .ok (.iload_n 1, 1) := by decide +kernel
theorem dX1_collect_59 : decode cX1_collect 59 = .ok (.iaload, 1) := by decide +kernel
theorem dX1_collect_60 : decode cX1_collect 60 = .ok (.invokevirtual 31, 3) := by decide +kernel
theorem dX1_collect_63 : decode cX1_collect 63 = .ok (.iinc 1 1, 3) := by decide +kernel
theorem dX1_collect_66 : decode cX1_collect 66 = .ok (.goto (-30), 3) := by decide +kernel
theorem dX1_collect_69 : decode cX1_collect 69 = .ok (.iconst 0, 1) := by decide +kernel
theorem dX1_collect_70 : decode cX1_collect 70 = .ok (.istore_n 1, 1) := by decide +kernel
theorem dX1_collect_71 : decode cX1_collect 71 = .ok (.iload_n 1, 1) := by decide +kernel
theorem dX1_collect_72 : decode cX1_collect 72 = .ok (.aload_n 0, 1) := by decide +kernel
theorem dX1_collect_73 : decode cX1_collect 73 = .ok (.getfield 23, 3) := by decide +kernel
theorem dX1_collect_76 : decode cX1_collect 76 = .ok (.if_icmp .ge 28, 3) := by decide +kernel
theorem dX1_collect_79 : decode cX1_collect 79 = .ok (.iload_n 1, 1) := by decide +kernel
theorem dX1_collect_80 : decode cX1_collect 80 = .ok (.aload_n 0, 1) := by decide +kernel
theorem dX1_collect_81 : decode cX1_collect 81 = .ok (.getfield 11, 3) := by decide +kernel
theorem dX1_collect_84 : decode cX1_collect 84 = .ok (.arraylength, 1) := by decide +kernel
theorem dX1_collect_85 : decode cX1_collect 85 = .ok (.if_icmp .ge 19, 3) := by decide +kernel
theorem dX1_collect_88 : decode cX1_collect 88 = .ok (.aload_n 0, 1) := by decide +kernel
theorem dX1_collect_89 : decode cX1_collect 89 = .ok (.aload_n 0, 1) := by decide +kernel
theorem dX1_collect_90 : decode cX1_collect 90 = .ok (.getfield 11, 3) := by decide +kernel
theorem dX1_collect_93 : decode cX1_collect 93 = .ok (.iload_n 1, 1) := by decide +kernel
theorem dX1_collect_94 : decode cX1_collect 94 = .ok (.iaload, 1) := by decide +kernel
theorem dX1_collect_95 : decode cX1_collect 95 = .ok (.invokevirtual 34, 3) := by decide +kernel
theorem dX1_collect_98 : decode cX1_collect 98 = .ok (.iinc 1 1, 3) := by decide +kernel
theorem dX1_collect_101 : decode cX1_collect 101 = .ok (.goto (-30), 3) := by decide +kernel
theorem dX1_collect_104 : decode cX1_collect 104 = .ok (.iconst 0, 1) := by decide +kernel
theorem dX1_collect_105 : decode cX1_collect 105 = .ok (.istore_n 1, 1) := by decide +kernel
theorem dX1_collect_106 : decode cX1_collect 106 = .ok (.iload_n 1, 1) := by decide +kernel
theorem dX1_collect_107 : decode cX1_collect 107 = .ok (.aload_n 0, 1) := by decide +kernel
theorem dX1_collect_108 : decode cX1_collect 108 = .ok (.getfield 23, 3) := by decide +kernel
theorem dX1_collect_111 : decode cX1_collect 111 = .ok (.if_icmp .ge 36, 3) := by decide +kernel
theorem dX1_collect_114 : decode cX1_collect 114 = .ok (.iload_n 1, 1) := by decide +kernel
theorem dX1_collect_115 : decode cX1_collect 115 = .ok (.aload_n 0, 1) := by decide +kernel
theorem dX1_collect_116 : decode cX1_collect 116 = .ok (.getfield 11, 3) := by decide +kernel
theorem dX1_collect_119 : decode cX1_collect 119 = .ok (.arraylength, 1) := by decide +kernel
theorem dX1_collect_120 : decode cX1_collect 120 = .ok (.if_icmp .ge 27, 3) := by decide +kernel
theorem dX1_collect_123 : decode cX1_collect 123 = .ok (.aload_n 0, 1) := by decide +kernel
theorem dX1_collect_124 : decode cX1_collect 124 = .ok (.aload_n 0, 1) := by decide +kernel
theorem dX1_collect_125 : decode cX1_collect 125 = .ok (.getfield 19, 3) := by decide +kernel
theorem dX1_collect_128 : decode cX1_collect 128 = .ok (.aload_n 0, 1) := by decide +kernel
theorem dX1_collect_129 : decode cX1_collect 129 = .ok (.getfield 11, 3) := by decide +kernel
theorem dX1_collect_132 : decode cX1_collect 132 = .ok (.iload_n 1, 1) := by decide +kernel
theorem dX1_collect_133 : decode cX1_collect 133 = .ok (.iaload, 1) := by decide +kernel
theorem dX1_collect_134 : decode cX1_collect 134 = .ok (.iconst 0, 1) := by decide +kernel
theorem dX1_collect_135 : decode cX1_collect 135 = .ok (.invokevirtual 37, 3) := by decide +kernel
theorem dX1_collect_138 : decode cX1_collect 138 = .ok (.invokevirtual 27, 3) := by decide +kernel
theorem dX1_collect_141 : decode cX1_collect 141 = .ok (.iinc 1 1, 3) := by decide +kernel
theorem dX1_collect_144 : decode cX1_collect 144 = .ok (.goto (-38), 3) := by decide +kernel
theorem dX1_collect_147 : decode cX1_collect 147 = .ok (.return_, 1) := by decide +kernel
set_option maxRecDepth 20000 in
theorem ggX1_noteBehindTwoDigits_X0_listed : GoodIn wsX1_noteBehindTwoDigits wsX0_listed := goodIn_r _ [5, 6, 39, 40, 41, 42, 43, 44, 45] (by decide +kernel) (by decide +kernel)
set_option maxRecDepth 20000 in
theorem gX1_noteBehindTwoDigits_X0_listed_n44 : GoodIn wsX1_noteBehindTwoDigits (wsX0_listed) := ggX1_noteBehindTwoDigits_X0_listed
set_option maxRecDepth 20000 in
theorem ggX1_noteBehindTwoDigits_X0_carryBehind : GoodIn wsX1_noteBehindTwoDigits wsX0_carryBehind := goodIn_r _ [9, 10, 11, 12, 13, 3, 14, 15, 16, 17, 18, 19, 20, 21, 22, 23, 24, 25, 26, 39, 40, 41, 42, 43, 44, 45] (by decide +kernel) (by decide +kernel)
set_option maxRecDepth 20000 in
theorem gX1_noteBehindTwoDigits_X0_carryBehind_n37 : GoodIn wsX1_noteBehindTwoDigits (wsX0_carryBehind) := ggX1_noteBehindTwoDigits_X0_carryBehind
set_option maxRecDepth 20000 in
theorem ggX1_noteBehindTwoDigits_X1_note : GoodIn wsX1_noteBehindTwoDigits wsX1_note := goodIn_r _ [31, 32, 33, 34, 35, 36, 37, 38] (by decide +kernel) (by decide +kernel)
set_option maxRecDepth 20000 in
theorem gX1_noteBehindTwoDigits_X1_note : GoodIn wsX1_noteBehindTwoDigits (wsV RX1 27 RX1 yX1_note wsX1_note) := goodIn_app (goodIn_of _ (by decide +kernel)) ggX1_noteBehindTwoDigits_X1_note
theorem dX1_noteBehindTwoDigits_0 : decode cX1_noteBehindTwoDigits 0 = .ok (.iconst 0, 1) := by decide +kernel
theorem dX1_noteBehindTwoDigits_1 : decode cX1_noteBehindTwoDigits 1 = .ok (.istore_n 2, 1) := by decide +kernel
theorem dX1_noteBehindTwoDigits_2 : decode cX1_noteBehindTwoDigits 2 = .ok (.iload_n 2, 1) := by decide +kernel
theorem dX1_noteBehindTwoDigits_3 : decode cX1_noteBehindTwoDigits 3 = .ok (.aload_n 0, 1) := by decide +kernel
theorem dX1_noteBehindTwoDigits_4 : decode cX1_noteBehindTwoDigits 4 = .ok (.getfield 19, 3) := by decide +kernel
theorem dX1_noteBehindTwoDigits_7 : decode cX1_noteBehindTwoDigits 7 = .ok (.getfield 43, 3) := by decide +kernel
theorem dX1_noteBehindTwoDigits_10 : decode cX1_noteBehindTwoDigits 10 = .ok (.if_icmp .ge 57, 3) := by decide +kernel
theorem dX1_noteBehindTwoDigits_13 : decode cX1_noteBehindTwoDigits 13 = .ok (.iload_n 2, 1) := by decide +kernel
theorem dX1_noteBehindTwoDigits_14 : decode cX1_noteBehindTwoDigits 14 = .ok (.istore_n 3, 1) := by decide +kernel
theorem dX1_noteBehindTwoDigits_15 : decode cX1_noteBehindTwoDigits 15 = .ok (.iload_n 3, 1) := by decide +kernel
theorem dX1_noteBehindTwoDigits_16 : decode cX1_noteBehindTwoDigits 16 = .ok (.aload_n 0, 1) := by decide +kernel
theorem dX1_noteBehindTwoDigits_17 : decode cX1_noteBehindTwoDigits 17 = .ok (.getfield 19, 3) := by decide +kernel
theorem dX1_noteBehindTwoDigits_20 : decode cX1_noteBehindTwoDigits 20 = .ok (.getfield 43, 3) := by decide +kernel
theorem dX1_noteBehindTwoDigits_23 : decode cX1_noteBehindTwoDigits 23 = .ok (.if_icmp .ge 38, 3) := by decide +kernel
theorem dX1_noteBehindTwoDigits_26 : decode cX1_noteBehindTwoDigits 26 = .ok (.aload_n 0, 1) := by decide +kernel
theorem dX1_noteBehindTwoDigits_27 : decode cX1_noteBehindTwoDigits 27 = .ok (.aload_n 0, 1) := by decide +kernel
theorem dX1_noteBehindTwoDigits_28 : decode cX1_noteBehindTwoDigits 28 = .ok (.getfield 19, 3) := by decide +kernel
theorem dX1_noteBehindTwoDigits_31 : decode cX1_noteBehindTwoDigits 31 = .ok (.iload_n 1, 1) := by decide +kernel
theorem dX1_noteBehindTwoDigits_32 : decode cX1_noteBehindTwoDigits 32 = .ok (.aload_n 0, 1) := by decide +kernel
theorem dX1_noteBehindTwoDigits_33 : decode cX1_noteBehindTwoDigits 33 = .ok (.getfield 19, 3) := by decide +kernel
theorem dX1_noteBehindTwoDigits_36 : decode cX1_noteBehindTwoDigits 36 = .ok (.iload_n 2, 1) := by decide +kernel
theorem dX1_noteBehindTwoDigits_37 : decode cX1_noteBehindTwoDigits 37 = .ok (.invokevirtual 44, 3) := by decide +kernel
theorem dX1_noteBehindTwoDigits_40 : decode cX1_noteBehindTwoDigits 40 = .ok (.aload_n 0, 1) := by decide +kernel
theorem dX1_noteBehindTwoDigits_41 : decode cX1_noteBehindTwoDigits 41 = .ok (.getfield 19, 3) := by decide +kernel
theorem dX1_noteBehindTwoDigits_44 : decode cX1_noteBehindTwoDigits 44 = .ok (.iload_n 3, 1) := by decide +kernel
theorem dX1_noteBehindTwoDigits_45 : decode cX1_noteBehindTwoDigits 45 = .ok (.invokevirtual 44, 3) := by decide +kernel
theorem dX1_noteBehindTwoDigits_48 : decode cX1_noteBehindTwoDigits 48 = .ok (.iadd, 1) := by decide +kernel
theorem dX1_noteBehindTwoDigits_49 : decode cX1_noteBehindTwoDigits 49 = .ok (.invokevirtual 37, 3) := by decide +kernel
theorem dX1_noteBehindTwoDigits_52 : decode cX1_noteBehindTwoDigits 52 = .ok (.invokevirtual 27, 3) := by decide +kernel
theorem dX1_noteBehindTwoDigits_55 : decode cX1_noteBehindTwoDigits 55 = .ok (.iinc 3 1, 3) := by decide +kernel
theorem dX1_noteBehindTwoDigits_58 : decode cX1_noteBehindTwoDigits 58 = .ok (.goto (-43), 3) := by decide +kernel
theorem dX1_noteBehindTwoDigits_61 : decode cX1_noteBehindTwoDigits 61 = .ok (.iinc 2 1, 3) := by decide +kernel
theorem dX1_noteBehindTwoDigits_64 : decode cX1_noteBehindTwoDigits 64 = .ok (.goto (-62), 3) := by decide +kernel
theorem dX1_noteBehindTwoDigits_67 : decode cX1_noteBehindTwoDigits 67 = .ok (.return_, 1) := by decide +kernel
set_option maxRecDepth 20000 in
theorem ggX1_noteBehindOneDigit_X0_listed : GoodIn wsX1_noteBehindOneDigit wsX0_listed := goodIn_r _ [5, 6, 39, 40, 41, 42, 43, 44, 45] (by decide +kernel) (by decide +kernel)
set_option maxRecDepth 20000 in
theorem gX1_noteBehindOneDigit_X0_listed_n44 : GoodIn wsX1_noteBehindOneDigit (wsX0_listed) := ggX1_noteBehindOneDigit_X0_listed
set_option maxRecDepth 20000 in
theorem ggX1_noteBehindOneDigit_X0_carryBehind : GoodIn wsX1_noteBehindOneDigit wsX0_carryBehind := goodIn_r _ [9, 10, 11, 12, 13, 3, 14, 15, 16, 17, 18, 19, 20, 21, 22, 23, 24, 25, 26, 39, 40, 41, 42, 43, 44, 45] (by decide +kernel) (by decide +kernel)
set_option maxRecDepth 20000 in
theorem gX1_noteBehindOneDigit_X0_carryBehind_n37 : GoodIn wsX1_noteBehindOneDigit (wsX0_carryBehind) := ggX1_noteBehindOneDigit_X0_carryBehind
set_option maxRecDepth 20000 in
theorem ggX1_noteBehindOneDigit_X1_note : GoodIn wsX1_noteBehindOneDigit wsX1_note := goodIn_r _ [31, 32, 33, 34, 35, 36, 37, 38] (by decide +kernel) (by decide +kernel)
set_option maxRecDepth 20000 in
theorem gX1_noteBehindOneDigit_X1_note : GoodIn wsX1_noteBehindOneDigit (wsV RX1 27 RX1 yX1_note wsX1_note) := goodIn_app (goodIn_of _ (by decide +kernel)) ggX1_noteBehindOneDigit_X1_note
theorem dX1_noteBehindOneDigit_0 : decode cX1_noteBehindOneDigit 0 = .ok (.iconst 0, 1) := by decide +kernel
theorem dX1_noteBehindOneDigit_1 : decode cX1_noteBehindOneDigit 1 = .ok (.istore_n 2, 1) := by decide +kernel
theorem dX1_noteBehindOneDigit_2 : decode cX1_noteBehindOneDigit 2 = .ok (.iload_n 2, 1) := by decide +kernel
theorem dX1_noteBehindOneDigit_3 : decode cX1_noteBehindOneDigit 3 = .ok (.aload_n 0, 1) := by decide +kernel
theorem dX1_noteBehindOneDigit_4 : decode cX1_noteBehindOneDigit 4 = .ok (.getfield 19, 3) := by decide +kernel
theorem dX1_noteBehindOneDigit_7 : decode cX1_noteBehindOneDigit 7 = .ok (.getfield 43, 3) := by decide +kernel
theorem dX1_noteBehindOneDigit_10 : decode cX1_noteBehindOneDigit 10 = .ok (.if_icmp .ge 29, 3) := by decide +kernel
theorem dX1_noteBehindOneDigit_13 : decode cX1_noteBehindOneDigit 13 = .ok (.aload_n 0, 1) := by decide +kernel
theorem dX1_noteBehindOneDigit_14 : decode cX1_noteBehindOneDigit 14 = .ok (.aload_n 0, 1) := by decide +kernel
theorem dX1_noteBehindOneDigit_15 : decode cX1_noteBehindOneDigit 15 = .ok (.getfield 19, 3) := by decide +kernel
theorem dX1_noteBehindOneDigit_18 : decode cX1_noteBehindOneDigit 18 = .ok (.iload_n 1, 1) := by decide +kernel
theorem dX1_noteBehindOneDigit_19 : decode cX1_noteBehindOneDigit 19 = .ok (.aload_n 0, 1) := by decide +kernel
theorem dX1_noteBehindOneDigit_20 : decode cX1_noteBehindOneDigit 20 = .ok (.getfield 19, 3) := by decide +kernel
theorem dX1_noteBehindOneDigit_23 : decode cX1_noteBehindOneDigit 23 = .ok (.iload_n 2, 1) := by decide +kernel
theorem dX1_noteBehindOneDigit_24 : decode cX1_noteBehindOneDigit 24 = .ok (.invokevirtual 44, 3) := by decide +kernel
theorem dX1_noteBehindOneDigit_27 : decode cX1_noteBehindOneDigit 27 = .ok (.invokevirtual 37, 3) := by decide +kernel
theorem dX1_noteBehindOneDigit_30 : decode cX1_noteBehindOneDigit 30 = .ok (.invokevirtual 27, 3) := by decide +kernel
theorem dX1_noteBehindOneDigit_33 : decode cX1_noteBehindOneDigit 33 = .ok (.iinc 2 1, 3) := by decide +kernel
theorem dX1_noteBehindOneDigit_36 : decode cX1_noteBehindOneDigit 36 = .ok (.goto (-34), 3) := by decide +kernel
theorem dX1_noteBehindOneDigit_39 : decode cX1_noteBehindOneDigit 39 = .ok (.return_, 1) := by decide +kernel
theorem dX1_note_0 : decode cX1_note 0 = .ok (.iload_n 1, 1) := by decide +kernel
theorem dX1_note_1 : decode cX1_note 1 = .ok (.bipush 60, 2) := by decide +kernel
theorem dX1_note_3 : decode cX1_note 3 = .ok (.iadd, 1) := by decide +kernel
theorem dX1_note_4 : decode cX1_note 4 = .ok (.istore_n 2, 1) := by decide +kernel
theorem dX1_note_5 : decode cX1_note 5 = .ok (.iload_n 2, 1) := by decide +kernel
theorem dX1_note_6 : decode cX1_note 6 = .ok (.ifCond .lt 40, 3) := by decide +kernel
theorem dX1_note_9 : decode cX1_note 9 = .ok (.iload_n 2, 1) := by decide +kernel
theorem dX1_note_10 : decode cX1_note 10 = .ok (.aload_n 0, 1) := by decide +kernel
theorem dX1_note_11 : decode cX1_note 11 = .ok (.getfield 15, 3) := by decide +kernel
theorem dX1_note_14 : decode cX1_note 14 = .ok (.arraylength, 1) := by decide +kernel
theorem dX1_note_15 : decode cX1_note 15 = .ok (.if_icmp .ge 31, 3) := by decide +kernel
theorem dX1_note_18 : decode cX1_note 18 = .ok (.aload_n 0, 1) := by decide +kernel
theorem dX1_note_19 : decode cX1_note 19 = .ok (.getfield 15, 3) := by decide +kernel
theorem dX1_note_22 : decode cX1_note 22 = .ok (.iload_n 2, 1) := by decide +kernel
theorem dX1_note_23 : decode cX1_note 23 = .ok (.baload, 1) := by decide +kernel
theorem dX1_note_24 : decode cX1_note 24 = .ok (.ifCond .ne 22, 3) := by decide +kernel
theorem dX1_note_27 : decode cX1_note 27 = .ok (.aload_n 0, 1) := by decide +kernel
theorem dX1_note_28 : decode cX1_note 28 = .ok (.getfield 23, 3) := by decide +kernel
theorem dX1_note_31 : decode cX1_note 31 = .ok (.ifCond .lt 15, 3) := by decide +kernel
theorem dX1_note_34 : decode cX1_note 34 = .ok (.aload_n 0, 1) := by decide +kernel
theorem dX1_note_35 : decode cX1_note 35 = .ok (.getfield 23, 3) := by decide +kernel
theorem dX1_note_38 : decode cX1_note 38 = .ok (.aload_n 0, 1) := by decide +kernel
theorem dX1_note_39 : decode cX1_note 39 = .ok (.getfield 11, 3) := by decide +kernel
theorem dX1_note_42 : decode cX1_note 42 = .ok (.arraylength, 1) := by decide +kernel
theorem dX1_note_43 : decode cX1_note 43 = .ok (.if_icmp .lt 4, 3) := by decide +kernel
theorem dX1_note_46 : decode cX1_note 46 = .ok (.return_, 1) := by decide +kernel
theorem dX1_note_47 : decode cX1_note 47 = .ok (.aload_n 0, 1) := by decide +kernel
theorem dX1_note_48 : decode cX1_note 48 = .ok (.getfield 15, 3) := by decide +kernel
theorem dX1_note_51 : decode cX1_note 51 = .ok (.iload_n 2, 1) := by decide +kernel
theorem dX1_note_52 : decode cX1_note 52 = .ok (.iconst 1, 1) := by decide +kernel
theorem dX1_note_53 : decode cX1_note 53 = .ok (.bastore, 1) := by decide +kernel
theorem dX1_note_54 : decode cX1_note 54 = .ok (.aload_n 0, 1) := by decide +kernel
theorem dX1_note_55 : decode cX1_note 55 = .ok (.getfield 11, 3) := by decide +kernel
theorem dX1_note_58 : decode cX1_note 58 = .ok (.aload_n 0, 1) := by decide +kernel
theorem dX1_note_59 : decode cX1_note 59 = .ok (.getfield 23, 3) := by decide +kernel
theorem dX1_note_62 : decode cX1_note 62 = .ok (.iload_n 1, 1) := by decide +kernel
theorem dX1_note_63 : decode cX1_note 63 = .ok (.iastore, 1) := by decide +kernel
theorem dX1_note_64 : decode cX1_note 64 = .ok (.aload_n 0, 1) := by decide +kernel
theorem dX1_note_65 : decode cX1_note 65 = .ok (.dup, 1) := by decide +kernel
theorem dX1_note_66 : decode cX1_note 66 = .ok (.getfield 23, 3) := by decide +kernel
theorem dX1_note_69 : decode cX1_note 69 = .ok (.iconst 1, 1) := by decide +kernel
theorem dX1_note_70 : decode cX1_note 70 = .ok (.iadd, 1) := by decide +kernel
theorem dX1_note_71 : decode cX1_note 71 = .ok (.putfield 23, 3) := by decide +kernel
theorem dX1_note_74 : decode cX1_note 74 = .ok (.return_, 1) := by decide +kernel
theorem dX1_ascending_0 : decode cX1_ascending 0 = .ok (.iconst 0, 1) := by decide +kernel
theorem dX1_ascending_1 : decode cX1_ascending 1 = .ok (.istore_n 2, 1) := by decide +kernel
theorem dX1_ascending_2 : decode cX1_ascending 2 = .ok (.iconst 0, 1) := by decide +kernel
theorem dX1_ascending_3 : decode cX1_ascending 3 = .ok (.istore_n 3, 1) := by decide +kernel
theorem dX1_ascending_4 : decode cX1_ascending 4 = .ok (.iload_n 3, 1) := by decide +kernel
theorem dX1_ascending_5 : decode cX1_ascending 5 = .ok (.aload_n 0, 1) := by decide +kernel
theorem dX1_ascending_6 : decode cX1_ascending 6 = .ok (.getfield 15, 3) := by decide +kernel
theorem dX1_ascending_9 : decode cX1_ascending 9 = .ok (.arraylength, 1) := by decide +kernel
theorem dX1_ascending_10 : decode cX1_ascending 10 = .ok (.if_icmp .ge 31, 3) := by decide +kernel
theorem dX1_ascending_13 : decode cX1_ascending 13 = .ok (.aload_n 0, 1) := by decide +kernel
theorem dX1_ascending_14 : decode cX1_ascending 14 = .ok (.getfield 15, 3) := by decide +kernel
theorem dX1_ascending_17 : decode cX1_ascending 17 = .ok (.iload_n 3, 1) := by decide +kernel
theorem dX1_ascending_18 : decode cX1_ascending 18 = .ok (.baload, 1) := by decide +kernel
theorem dX1_ascending_19 : decode cX1_ascending 19 = .ok (.ifCond .eq 16, 3) := by decide +kernel
theorem dX1_ascending_22 : decode cX1_ascending 22 = .ok (.iload_n 2, 1) := by decide +kernel
theorem dX1_ascending_23 : decode cX1_ascending 23 = .ok (.iload_n 1, 1) := by decide +kernel
theorem dX1_ascending_24 : decode cX1_ascending 24 = .ok (.if_icmp .ne 8, 3) := by decide +kernel
theorem dX1_ascending_27 : decode cX1_ascending 27 = .ok (.iload_n 3, 1) := by decide +kernel
theorem dX1_ascending_28 : decode cX1_ascending 28 = .ok (.bipush 60, 2) := by decide +kernel
theorem dX1_ascending_30 : decode cX1_ascending 30 = .ok (.isub, 1) := by decide +kernel
theorem dX1_ascending_31 : decode cX1_ascending 31 = .ok (.ireturn, 1) := by decide +kernel
theorem dX1_ascending_32 : decode cX1_ascending 32 = .ok (.iinc 2 1, 3) := by decide +kernel
theorem dX1_ascending_35 : decode cX1_ascending 35 = .ok (.iinc 3 1, 3) := by decide +kernel
theorem dX1_ascending_38 : decode cX1_ascending 38 = .ok (.goto (-34), 3) := by decide +kernel
theorem dX1_ascending_41 : decode cX1_ascending 41 = .ok (.ldc 48, 2) := by decide +kernel
theorem dX1_ascending_43 : decode cX1_ascending 43 = .ok (.ireturn, 1) := by decide +kernel
set_option maxRecDepth 20000 in
theorem ggX2_init_X6_init : GoodIn wsX2_init wsX6_init := goodIn_r _ [11, 12, 2, 3, 4, 13, 17, 18] (by decide +kernel) (by decide +kernel)
set_option maxRecDepth 20000 in
theorem gX2_init_X6_init_n17 : GoodIn wsX2_init (wsX6_init) := ggX2_init_X6_init
theorem dX2_init_0 : decode cX2_init 0 = .ok (.aload_n 0, 1) := by decide +kernel
theorem dX2_init_1 : decode cX2_init 1 = .ok (.invokespecial 3, 3) := by decide +kernel
theorem dX2_init_4 : decode cX2_init 4 = .ok (.aload_n 0, 1) := by decide +kernel
theorem dX2_init_5 : decode cX2_init 5 = .ok (.bipush 12, 2) := by decide +kernel
theorem dX2_init_7 : decode cX2_init 7 = .ok (.newarray .int, 2) := by decide +kernel
theorem dX2_init_9 : decode cX2_init 9 = .ok (.putfield 9, 3) := by decide +kernel
theorem dX2_init_12 : decode cX2_init 12 = .ok (.aload_n 0, 1) := by decide +kernel
theorem dX2_init_13 : decode cX2_init 13 = .ok (.new 15, 3) := by decide +kernel
theorem dX2_init_16 : decode cX2_init 16 = .ok (.dup, 1) := by decide +kernel
theorem dX2_init_17 : decode cX2_init 17 = .ok (.invokespecial 17, 3) := by decide +kernel
theorem dX2_init_20 : decode cX2_init 20 = .ok (.putfield 18, 3) := by decide +kernel
theorem dX2_init_23 : decode cX2_init 23 = .ok (.return_, 1) := by decide +kernel
set_option maxRecDepth 20000 in
theorem ggX2_giveSums_X6_entryOrZero : GoodIn wsX2_giveSums wsX6_entryOrZero := goodIn_r _ [10, 11, 12, 13, 14] (by decide +kernel) (by decide +kernel)
set_option maxRecDepth 20000 in
theorem gX2_giveSums_X6_entryOrZero_n35 : GoodIn wsX2_giveSums (wsX6_entryOrZero) := ggX2_giveSums_X6_entryOrZero
theorem dX2_giveSums_0 : decode cX2_giveSums 0 = .ok (.aload_n 0, 1) := by decide +kernel
theorem dX2_giveSums_1 : decode cX2_giveSums 1 = .ok (.aload_n 1, 1) := by decide +kernel
theorem dX2_giveSums_2 : decode cX2_giveSums 2 = .ok (.getfield 22, 3) := by decide +kernel
theorem dX2_giveSums_5 : decode cX2_giveSums 5 = .ok (.aload_n 2, 1) := by decide +kernel
theorem dX2_giveSums_6 : decode cX2_giveSums 6 = .ok (.getfield 22, 3) := by decide +kernel
theorem dX2_giveSums_9 : decode cX2_giveSums 9 = .ok (.invokestatic 26, 3) := by decide +kernel
theorem dX2_giveSums_12 : decode cX2_giveSums 12 = .ok (.putfield 32, 3) := by decide +kernel
theorem dX2_giveSums_15 : decode cX2_giveSums 15 = .ok (.iconst 0, 1) := by decide +kernel
theorem dX2_giveSums_16 : decode cX2_giveSums 16 = .ok (.istore_n 3, 1) := by decide +kernel
theorem dX2_giveSums_17 : decode cX2_giveSums 17 = .ok (.iload_n 3, 1) := by decide +kernel
theorem dX2_giveSums_18 : decode cX2_giveSums 18 = .ok (.aload_n 0, 1) := by decide +kernel
theorem dX2_giveSums_19 : decode cX2_giveSums 19 = .ok (.getfield 9, 3) := by decide +kernel
theorem dX2_giveSums_22 : decode cX2_giveSums 22 = .ok (.arraylength, 1) := by decide +kernel
theorem dX2_giveSums_23 : decode cX2_giveSums 23 = .ok (.if_icmp .ge 26, 3) := by decide +kernel
theorem dX2_giveSums_26 : decode cX2_giveSums 26 = .ok (.aload_n 0, 1) := by decide +kernel
theorem dX2_giveSums_27 : decode cX2_giveSums 27 = .ok (.getfield 9, 3) := by decide +kernel
theorem dX2_giveSums_30 : decode cX2_giveSums 30 = .ok (.iload_n 3, 1) := by decide +kernel
theorem dX2_giveSums_31 : decode cX2_giveSums 31 = .ok (.aload_n 1, 1) := by decide +kernel
theorem dX2_giveSums_32 : decode cX2_giveSums 32 = .ok (.iload_n 3, 1) := by decide +kernel
theorem dX2_giveSums_33 : decode cX2_giveSums 33 = .ok (.invokevirtual 35, 3) := by decide +kernel
theorem dX2_giveSums_36 : decode cX2_giveSums 36 = .ok (.aload_n 2, 1) := by decide +kernel
theorem dX2_giveSums_37 : decode cX2_giveSums 37 = .ok (.iload_n 3, 1) := by decide +kernel
theorem dX2_giveSums_38 : decode cX2_giveSums 38 = .ok (.invokevirtual 35, 3) := by decide +kernel
theorem dX2_giveSums_41 : decode cX2_giveSums 41 = .ok (.iadd, 1) := by decide +kernel
theorem dX2_giveSums_42 : decode cX2_giveSums 42 = .ok (.iastore, 1) := by decide +kernel
theorem dX2_giveSums_43 : decode cX2_giveSums 43 = .ok (.iinc 3 1, 3) := by decide +kernel
theorem dX2_giveSums_46 : decode cX2_giveSums 46 = .ok (.goto (-29), 3) := by decide +kernel
theorem dX2_giveSums_49 : decode cX2_giveSums 49 = .ok (.return_, 1) := by decide +kernel
set_option maxRecDepth 20000 in
theorem ggX2_giveMultiples_X6_entryOrZero : GoodIn wsX2_giveMultiples wsX6_entryOrZero := goodIn_r _ [6, 7, 8, 9, 10] (by decide +kernel) (by decide +kernel)
set_option maxRecDepth 20000 in
theorem gX2_giveMultiples_X6_entryOrZero_n35 : GoodIn wsX2_giveMultiples (wsX6_entryOrZero) := ggX2_giveMultiples_X6_entryOrZero
theorem dX2_giveMultiples_0 : decode cX2_giveMultiples 0 = .ok (.aload_n 0, 1) := by decide +kernel
theorem dX2_giveMultiples_1 : decode cX2_giveMultiples 1 = .ok (.aload_n 1, 1) := by decide +kernel
theorem dX2_giveMultiples_2 : decode cX2_giveMultiples 2 = .ok (.getfield 22, 3) := by decide +kernel
theorem dX2_giveMultiples_5 : decode cX2_giveMultiples 5 = .ok (.putfield 32, 3) := by decide +kernel
theorem dX2_giveMultiples_8 : decode cX2_giveMultiples 8 = .ok (.iconst 0, 1) := by decide +kernel
theorem dX2_giveMultiples_9 : decode cX2_giveMultiples 9 = .ok (.istore_n 3, 1) := by decide +kernel
theorem dX2_giveMultiples_10 : decode cX2_giveMultiples 10 = .ok (.iload_n 3, 1) := by decide +kernel
theorem dX2_giveMultiples_11 : decode cX2_giveMultiples 11 = .ok (.aload_n 0, 1) := by decide +kernel
theorem dX2_giveMultiples_12 : decode cX2_giveMultiples 12 = .ok (.getfield 9, 3) := by decide +kernel
theorem dX2_giveMultiples_15 : decode cX2_giveMultiples 15 = .ok (.arraylength, 1) := by decide +kernel
theorem dX2_giveMultiples_16 : decode cX2_giveMultiples 16 = .ok (.if_icmp .ge 22, 3) := by decide +kernel
theorem dX2_giveMultiples_19 : decode cX2_giveMultiples 19 = .ok (.aload_n 0, 1) := by decide +kernel
theorem dX2_giveMultiples_20 : decode cX2_giveMultiples 20 = .ok (.getfield 9, 3) := by decide +kernel
theorem dX2_giveMultiples_23 : decode cX2_giveMultiples 23 = .ok (.iload_n 3, 1) := by decide +kernel
theorem dX2_giveMultiples_24 : decode cX2_giveMultiples 24 = .ok (.aload_n 1, 1) := by decide +kernel
theorem dX2_giveMultiples_25 : decode cX2_giveMultiples 25 = .ok (.iload_n 3, 1) := by decide +kernel
theorem dX2_giveMultiples_26 : decode cX2_giveMultiples 26 = .ok (.invokevirtual 35, 3) := by decide +kernel
theorem dX2_giveMultiples_29 : decode cX2_giveMultiples 29 = .ok (.iload_n 2, 1) := by decide +kernel
theorem dX2_giveMultiples_30 : decode cX2_giveMultiples 30 = .ok (.imul, 1) := by decide +kernel
theorem dX2_giveMultiples_31 : decode cX2_giveMultiples 31 = .ok (.iastore, 1) := by decide +kernel
theorem dX2_giveMultiples_32 : decode cX2_giveMultiples 32 = .ok (.iinc 3 1, 3) := by decide +kernel
theorem dX2_giveMultiples_35 : decode cX2_giveMultiples 35 = .ok (.goto (-25), 3) := by decide +kernel
theorem dX2_giveMultiples_38 : decode cX2_giveMultiples 38 = .ok (.return_, 1) := by decide +kernel
set_option maxRecDepth 20000 in
theorem ggX2_carryThrough_X2_isOver : GoodIn wsX2_carryThrough wsX2_isOver := goodIn_r _ [7, 8, 9, 10, 11, 12, 13, 14, 15, 16, 17, 18, 19, 20, 21, 22, 23, 46, 47, 48, 51, 52, 53, 54, 55, 56, 57] (by decide +kernel) (by decide +kernel)
set_option maxRecDepth 20000 in
theorem gX2_carryThrough_X2_isOver : GoodIn wsX2_carryThrough (wsV RX2 39 RX2 yX2_isOver wsX2_isOver) := goodIn_app (goodIn_of _ (by decide +kernel)) ggX2_carryThrough_X2_isOver
set_option maxRecDepth 20000 in
theorem ggX2_carryThrough_X0_digitFor : GoodIn wsX2_carryThrough wsX0_digitFor := goodIn_r _ [16, 17, 18, 19, 20, 21, 22, 23, 51, 52, 53, 54, 55, 56, 57] (by decide +kernel) (by decide +kernel)
set_option maxRecDepth 20000 in
theorem gX2_carryThrough_X0_digitFor_n48 : GoodIn wsX2_carryThrough (wsX0_digitFor) := ggX2_carryThrough_X0_digitFor
set_option maxRecDepth 20000 in
theorem ggX2_carryThrough_X6_append : GoodIn wsX2_carryThrough wsX6_append := goodIn_r _ [27, 28, 29, 49, 50] (by decide +kernel) (by decide +kernel)
set_option maxRecDepth 20000 in
theorem gX2_carryThrough_X6_append_n51 : GoodIn wsX2_carryThrough (wsX6_append) := ggX2_carryThrough_X6_append
set_option maxRecDepth 20000 in
theorem ggX2_carryThrough_X0_carryBehind : GoodIn wsX2_carryThrough wsX0_carryBehind := goodIn_r _ [32, 33, 13, 14, 15, 10, 16, 17, 18, 19, 20, 21, 22, 23, 34, 35, 36, 37, 38, 51, 52, 53, 54, 55, 56, 57] (by decide +kernel) (by decide +kernel)
set_option maxRecDepth 20000 in
theorem gX2_carryThrough_X0_carryBehind_n55 : GoodIn wsX2_carryThrough (wsX0_carryBehind) := ggX2_carryThrough_X0_carryBehind
set_option maxRecDepth 20000 in
theorem ggX2_carryThrough_X6_dropZerosAtEnd : GoodIn wsX2_carryThrough wsX6_dropZerosAtEnd := goodIn_r _ [41, 29, 28, 42, 43, 44, 25, 45, 49, 50] (by decide +kernel) (by decide +kernel)
set_option maxRecDepth 20000 in
theorem gX2_carryThrough_X6_dropZerosAtEnd_n58 : GoodIn wsX2_carryThrough (wsX6_dropZerosAtEnd) := ggX2_carryThrough_X6_dropZerosAtEnd
theorem dX2_carryThrough_0 : decode cX2_carryThrough 0 = .ok (.iconst 0, 1) := by decide +kernel
theorem dX2_carryThrough_1 : decode cX2_carryThrough 1 = .ok (.istore_n 2, 1) := by decide +kernel
theorem dX2_carryThrough_2 : decode cX2_carryThrough 2 = .ok (.aload_n 0, 1) := by decide +kernel
theorem dX2_carryThrough_3 : decode cX2_carryThrough 3 = .ok (.getfield 18, 3) := by decide +kernel
theorem dX2_carryThrough_6 : decode cX2_carryThrough 6 = .ok (.iconst 0, 1) := by decide +kernel
theorem dX2_carryThrough_7 : decode cX2_carryThrough 7 = .ok (.putfield 22, 3) := by decide +kernel
theorem dX2_carryThrough_10 : decode cX2_carryThrough 10 = .ok (.iconst 0, 1) := by decide +kernel
theorem dX2_carryThrough_11 : decode cX2_carryThrough 11 = .ok (.istore_n 3, 1) := by decide +kernel
theorem dX2_carryThrough_12 : decode cX2_carryThrough 12 = .ok (.iload_n 3, 1) := by decide +kernel
theorem dX2_carryThrough_13 : decode cX2_carryThrough 13 = .ok (.aload_n 0, 1) := by decide +kernel
theorem dX2_carryThrough_14 : decode cX2_carryThrough 14 = .ok (.getfield 9, 3) := by decide +kernel
theorem dX2_carryThrough_17 : decode cX2_carryThrough 17 = .ok (.arraylength, 1) := by decide +kernel
theorem dX2_carryThrough_18 : decode cX2_carryThrough 18 = .ok (.if_icmp .ge 58, 3) := by decide +kernel
theorem dX2_carryThrough_21 : decode cX2_carryThrough 21 = .ok (.aload_n 0, 1) := by decide +kernel
theorem dX2_carryThrough_22 : decode cX2_carryThrough 22 = .ok (.aload_n 1, 1) := by decide +kernel
theorem dX2_carryThrough_23 : decode cX2_carryThrough 23 = .ok (.iload_n 3, 1) := by decide +kernel
theorem dX2_carryThrough_24 : decode cX2_carryThrough 24 = .ok (.iload_n 2, 1) := by decide +kernel
theorem dX2_carryThrough_25 : decode cX2_carryThrough 25 = .ok (.invokevirtual 39, 3) := by decide +kernel
theorem dX2_carryThrough_28 : decode cX2_carryThrough 28 = .ok (.ifCond .eq 6, 3) := by decide +kernel
theorem dX2_carryThrough_31 : decode cX2_carryThrough 31 = .ok (.goto 45, 3) := by decide +kernel
theorem dX2_carryThrough_34 : decode cX2_carryThrough 34 = .ok (.aload_n 0, 1) := by decide +kernel
theorem dX2_carryThrough_35 : decode cX2_carryThrough 35 = .ok (.getfield 18, 3) := by decide +kernel
theorem dX2_carryThrough_38 : decode cX2_carryThrough 38 = .ok (.aload_n 1, 1) := by decide +kernel
theorem dX2_carryThrough_39 : decode cX2_carryThrough 39 = .ok (.aload_n 0, 1) := by decide +kernel
theorem dX2_carryThrough_40 : decode cX2_carryThrough 40 = .ok (.getfield 9, 3) := by decide +kernel
theorem dX2_carryThrough_43 : decode cX2_carryThrough 43 = .ok (.iload_n 3, 1) := by decide +kernel
theorem dX2_carryThrough_44 : decode cX2_carryThrough 44 = .ok (.iaload, 1) := by decide +kernel
theorem dX2_carryThrough_45 : decode cX2_carryThrough 45 = .ok (.aload_n 1, 1) := by decide +kernel
theorem dX2_carryThrough_46 : decode cX2_carryThrough 46 = .ok (.getfield 43, 3) := by decide +kernel
theorem dX2_carryThrough_49 : decode cX2_carryThrough 49 = .ok (.iload_n 2, 1) := by decide +kernel
theorem dX2_carryThrough_50 : decode cX2_carryThrough 50 = .ok (.imul, 1) := by decide +kernel
theorem dX2_carryThrough_51 : decode cX2_carryThrough 51 = .ok (.iadd, 1) := by decide +kernel
theorem dX2_carryThrough_52 : decode cX2_carryThrough 52 = .ok (.invokevirtual 48, 3) := by decide +kernel
theorem dX2_carryThrough_55 : decode cX2_carryThrough 55 = .ok (.invokevirtual 51, 3) := by decide +kernel
theorem dX2_carryThrough_58 : decode cX2_carryThrough 58 = .ok (.aload_n 1, 1) := by decide +kernel
theorem dX2_carryThrough_59 : decode cX2_carryThrough 59 = .ok (.iload_n 2, 1) := by decide +kernel
theorem dX2_carryThrough_60 : decode cX2_carryThrough 60 = .ok (.aload_n 0, 1) := by decide +kernel
theorem dX2_carryThrough_61 : decode cX2_carryThrough 61 = .ok (.getfield 9, 3) := by decide +kernel
theorem dX2_carryThrough_64 : decode cX2_carryThrough 64 = .ok (.iload_n 3, 1) := by decide +kernel
theorem dX2_carryThrough_65 : decode cX2_carryThrough 65 = .ok (.iaload, 1) := by decide +kernel
theorem dX2_carryThrough_66 : decode cX2_carryThrough 66 = .ok (.invokevirtual 55, 3) := by decide +kernel
theorem dX2_carryThrough_69 : decode cX2_carryThrough 69 = .ok (.istore_n 2, 1) := by decide +kernel
theorem dX2_carryThrough_70 : decode cX2_carryThrough 70 = .ok (.iinc 3 1, 3) := by decide +kernel
theorem dX2_carryThrough_73 : decode cX2_carryThrough 73 = .ok (.goto (-61), 3) := by decide +kernel
theorem dX2_carryThrough_76 : decode cX2_carryThrough 76 = .ok (.aload_n 0, 1) := by decide +kernel
theorem dX2_carryThrough_77 : decode cX2_carryThrough 77 = .ok (.aload_n 1, 1) := by decide +kernel
theorem dX2_carryThrough_78 : decode cX2_carryThrough 78 = .ok (.aload_n 0, 1) := by decide +kernel
theorem dX2_carryThrough_79 : decode cX2_carryThrough 79 = .ok (.getfield 18, 3) := by decide +kernel
theorem dX2_carryThrough_82 : decode cX2_carryThrough 82 = .ok (.getfield 22, 3) := by decide +kernel
theorem dX2_carryThrough_85 : decode cX2_carryThrough 85 = .ok (.iload_n 2, 1) := by decide +kernel
theorem dX2_carryThrough_86 : decode cX2_carryThrough 86 = .ok (.invokevirtual 39, 3) := by decide +kernel
theorem dX2_carryThrough_89 : decode cX2_carryThrough 89 = .ok (.ifCond .ne 5, 3) := by decide +kernel
theorem dX2_carryThrough_92 : decode cX2_carryThrough 92 = .ok (.iconst 0, 1) := by decide +kernel
theorem dX2_carryThrough_93 : decode cX2_carryThrough 93 = .ok (.ireturn, 1) := by decide +kernel
theorem dX2_carryThrough_94 : decode cX2_carryThrough 94 = .ok (.aload_n 0, 1) := by decide +kernel
theorem dX2_carryThrough_95 : decode cX2_carryThrough 95 = .ok (.getfield 18, 3) := by decide +kernel
theorem dX2_carryThrough_98 : decode cX2_carryThrough 98 = .ok (.invokevirtual 58, 3) := by decide +kernel
theorem dX2_carryThrough_101 : decode cX2_carryThrough 101 = .ok (.iconst 1, 1) := by decide +kernel
theorem dX2_carryThrough_102 : decode cX2_carryThrough 102 = .ok (.ireturn, 1) := by decide +kernel
set_option maxRecDepth 20000 in
theorem ggX2_isOver_X0_keepsZero : GoodIn wsX2_isOver wsX0_keepsZero := goodIn_r _ [5, 6, 7, 8, 3, 9, 10, 11, 12, 13, 14, 15, 16, 20, 21, 22, 23, 24, 25, 26] (by decide +kernel) (by decide +kernel)
set_option maxRecDepth 20000 in
theorem gX2_isOver_X0_keepsZero_n61 : GoodIn wsX2_isOver (wsX0_keepsZero) := ggX2_isOver_X0_keepsZero
theorem dX2_isOver_0 : decode cX2_isOver 0 = .ok (.iload_n 2, 1) := by decide +kernel
theorem dX2_isOver_1 : decode cX2_isOver 1 = .ok (.aload_n 0, 1) := by decide +kernel
theorem dX2_isOver_2 : decode cX2_isOver 2 = .ok (.getfield 32, 3) := by decide +kernel
theorem dX2_isOver_5 : decode cX2_isOver 5 = .ok (.if_icmp .lt 18, 3) := by decide +kernel
theorem dX2_isOver_8 : decode cX2_isOver 8 = .ok (.iload_n 3, 1) := by decide +kernel
theorem dX2_isOver_9 : decode cX2_isOver 9 = .ok (.ifCond .ne 14, 3) := by decide +kernel
theorem dX2_isOver_12 : decode cX2_isOver 12 = .ok (.aload_n 1, 1) := by decide +kernel
theorem dX2_isOver_13 : decode cX2_isOver 13 = .ok (.invokevirtual 61, 3) := by decide +kernel
theorem dX2_isOver_16 : decode cX2_isOver 16 = .ok (.ifCond .eq 7, 3) := by decide +kernel
theorem dX2_isOver_19 : decode cX2_isOver 19 = .ok (.iconst 1, 1) := by decide +kernel
theorem dX2_isOver_20 : decode cX2_isOver 20 = .ok (.goto 4, 3) := by decide +kernel
theorem dX2_isOver_23 : decode cX2_isOver 23 = .ok (.iconst 0, 1) := by decide +kernel
theorem dX2_isOver_24 : decode cX2_isOver 24 = .ok (.ireturn, 1) := by decide +kernel
theorem dX3_init_0 : decode cX3_init 0 = .ok (.aload_n 0, 1) := by decide +kernel
theorem dX3_init_1 : decode cX3_init 1 = .ok (.invokespecial 3, 3) := by decide +kernel
theorem dX3_init_4 : decode cX3_init 4 = .ok (.aload_n 0, 1) := by decide +kernel
theorem dX3_init_5 : decode cX3_init 5 = .ok (.aload_n 1, 1) := by decide +kernel
theorem dX3_init_6 : decode cX3_init 6 = .ok (.putfield 9, 3) := by decide +kernel
theorem dX3_init_9 : decode cX3_init 9 = .ok (.return_, 1) := by decide +kernel
set_option maxRecDepth 20000 in
theorem ggX3_isLeastOfCycle_X0_carryBehind : GoodIn wsX3_isLeastOfCycle wsX0_carryBehind := goodIn_r _ [5, 6, 7, 8, 9, 3, 10, 11, 12, 13, 14, 15, 16, 17, 18, 19, 20, 21, 22, 24, 25, 26, 27, 28, 29, 30] (by decide +kernel) (by decide +kernel)
set_option maxRecDepth 20000 in
theorem gX3_isLeastOfCycle_X0_carryBehind_n15 : GoodIn wsX3_isLeastOfCycle (wsX0_carryBehind) := ggX3_isLeastOfCycle_X0_carryBehind
theorem dX3_isLeastOfCycle_0 : decode cX3_isLeastOfCycle 0 = .ok (.iload_n 1, 1) := by decide +kernel
theorem dX3_isLeastOfCycle_1 : decode cX3_isLeastOfCycle 1 = .ok (.istore_n 2, 1) := by decide +kernel
theorem dX3_isLeastOfCycle_2 : decode cX3_isLeastOfCycle 2 = .ok (.iconst 0, 1) := by decide +kernel
theorem dX3_isLeastOfCycle_3 : decode cX3_isLeastOfCycle 3 = .ok (.istore_n 3, 1) := by decide +kernel
theorem dX3_isLeastOfCycle_4 : decode cX3_isLeastOfCycle 4 = .ok (.iload_n 3, 1) := by decide +kernel
theorem dX3_isLeastOfCycle_5 : decode cX3_isLeastOfCycle 5 = .ok (.bipush 40, 2) := by decide +kernel
theorem dX3_isLeastOfCycle_7 : decode cX3_isLeastOfCycle 7 = .ok (.if_icmp .gt 35, 3) := by decide +kernel
theorem dX3_isLeastOfCycle_10 : decode cX3_isLeastOfCycle 10 = .ok (.aload_n 0, 1) := by decide +kernel
theorem dX3_isLeastOfCycle_11 : decode cX3_isLeastOfCycle 11 = .ok (.getfield 9, 3) := by decide +kernel
theorem dX3_isLeastOfCycle_14 : decode cX3_isLeastOfCycle 14 = .ok (.iload_n 2, 1) := by decide +kernel
theorem dX3_isLeastOfCycle_15 : decode cX3_isLeastOfCycle 15 = .ok (.iconst 0, 1) := by decide +kernel
theorem dX3_isLeastOfCycle_16 : decode cX3_isLeastOfCycle 16 = .ok (.invokevirtual 15, 3) := by decide +kernel
theorem dX3_isLeastOfCycle_19 : decode cX3_isLeastOfCycle 19 = .ok (.istore_n 2, 1) := by decide +kernel
theorem dX3_isLeastOfCycle_20 : decode cX3_isLeastOfCycle 20 = .ok (.iload_n 2, 1) := by decide +kernel
theorem dX3_isLeastOfCycle_21 : decode cX3_isLeastOfCycle 21 = .ok (.iload_n 1, 1) := by decide +kernel
theorem dX3_isLeastOfCycle_22 : decode cX3_isLeastOfCycle 22 = .ok (.if_icmp .gt 14, 3) := by decide +kernel
theorem dX3_isLeastOfCycle_25 : decode cX3_isLeastOfCycle 25 = .ok (.iload_n 2, 1) := by decide +kernel
theorem dX3_isLeastOfCycle_26 : decode cX3_isLeastOfCycle 26 = .ok (.iload_n 1, 1) := by decide +kernel
theorem dX3_isLeastOfCycle_27 : decode cX3_isLeastOfCycle 27 = .ok (.if_icmp .ne 7, 3) := by decide +kernel
theorem dX3_isLeastOfCycle_30 : decode cX3_isLeastOfCycle 30 = .ok (.iconst 1, 1) := by decide +kernel
theorem dX3_isLeastOfCycle_31 : decode cX3_isLeastOfCycle 31 = .ok (.goto 4, 3) := by decide +kernel
theorem dX3_isLeastOfCycle_34 : decode cX3_isLeastOfCycle 34 = .ok (.iconst 0, 1) := by decide +kernel
theorem dX3_isLeastOfCycle_35 : decode cX3_isLeastOfCycle 35 = .ok (.ireturn, 1) := by decide +kernel
theorem dX3_isLeastOfCycle_36 : decode cX3_isLeastOfCycle 36 = .ok (.iinc 3 1, 3) := by decide +kernel
theorem dX3_isLeastOfCycle_39 : decode cX3_isLeastOfCycle 39 = .ok (.goto (-35), 3) := by decide +kernel
theorem dX3_isLeastOfCycle_42 : decode cX3_isLeastOfCycle 42 = .ok (.iconst 0, 1) := by decide +kernel
theorem dX3_isLeastOfCycle_43 : decode cX3_isLeastOfCycle 43 = .ok (.ireturn, 1) := by decide +kernel
set_option maxRecDepth 20000 in
theorem ggX3_countUpTo_X3_isLeastOfCycle : GoodIn wsX3_countUpTo wsX3_isLeastOfCycle := goodIn_r _ [5, 6, 7, 8, 9, 10, 11, 12, 13, 14, 15, 16, 17, 18, 19, 20, 21, 22, 23, 24, 25, 26, 27, 28, 29, 30, 31, 32, 33, 34, 35] (by decide +kernel) (by decide +kernel)
set_option maxRecDepth 20000 in
theorem gX3_countUpTo_X3_isLeastOfCycle : GoodIn wsX3_countUpTo (wsV RX3 21 RX3 yX3_isLeastOfCycle wsX3_isLeastOfCycle) := goodIn_app (goodIn_of _ (by decide +kernel)) ggX3_countUpTo_X3_isLeastOfCycle
theorem dX3_countUpTo_0 : decode cX3_countUpTo 0 = .ok (.iconst 0, 1) := by decide +kernel
theorem dX3_countUpTo_1 : decode cX3_countUpTo 1 = .ok (.istore_n 2, 1) := by decide +kernel
theorem dX3_countUpTo_2 : decode cX3_countUpTo 2 = .ok (.bipush (-20), 2) := by decide +kernel
theorem dX3_countUpTo_4 : decode cX3_countUpTo 4 = .ok (.istore_n 3, 1) := by decide +kernel
theorem dX3_countUpTo_5 : decode cX3_countUpTo 5 = .ok (.iload_n 3, 1) := by decide +kernel
theorem dX3_countUpTo_6 : decode cX3_countUpTo 6 = .ok (.iload_n 1, 1) := by decide +kernel
theorem dX3_countUpTo_7 : decode cX3_countUpTo 7 = .ok (.if_icmp .gt 26, 3) := by decide +kernel
theorem dX3_countUpTo_10 : decode cX3_countUpTo 10 = .ok (.iload_n 3, 1) := by decide +kernel
theorem dX3_countUpTo_11 : decode cX3_countUpTo 11 = .ok (.bipush 20, 2) := by decide +kernel
theorem dX3_countUpTo_13 : decode cX3_countUpTo 13 = .ok (.if_icmp .gt 20, 3) := by decide +kernel
theorem dX3_countUpTo_16 : decode cX3_countUpTo 16 = .ok (.aload_n 0, 1) := by decide +kernel
theorem dX3_countUpTo_17 : decode cX3_countUpTo 17 = .ok (.iload_n 3, 1) := by decide +kernel
theorem dX3_countUpTo_18 : decode cX3_countUpTo 18 = .ok (.invokevirtual 21, 3) := by decide +kernel
theorem dX3_countUpTo_21 : decode cX3_countUpTo 21 = .ok (.ifCond .eq 6, 3) := by decide +kernel
theorem dX3_countUpTo_24 : decode cX3_countUpTo 24 = .ok (.iinc 2 1, 3) := by decide +kernel
theorem dX3_countUpTo_27 : decode cX3_countUpTo 27 = .ok (.iinc 3 1, 3) := by decide +kernel
theorem dX3_countUpTo_30 : decode cX3_countUpTo 30 = .ok (.goto (-25), 3) := by decide +kernel
theorem dX3_countUpTo_33 : decode cX3_countUpTo 33 = .ok (.iload_n 2, 1) := by decide +kernel
theorem dX3_countUpTo_34 : decode cX3_countUpTo 34 = .ok (.ireturn, 1) := by decide +kernel
set_option maxRecDepth 20000 in
theorem ggX3_leastOf_X3_isLeastOfCycle : GoodIn wsX3_leastOf wsX3_isLeastOfCycle := goodIn_r _ [6, 7, 8, 9, 10, 11, 12, 13, 14, 15, 16, 17, 18, 19, 20, 21, 22, 23, 24, 25, 26, 27, 28, 29, 30, 31, 32, 33, 34, 35, 36] (by decide +kernel) (by decide +kernel)
set_option maxRecDepth 20000 in
theorem gX3_leastOf_X3_isLeastOfCycle : GoodIn wsX3_leastOf (wsV RX3 21 RX3 yX3_isLeastOfCycle wsX3_isLeastOfCycle) := goodIn_app (goodIn_of _ (by decide +kernel)) ggX3_leastOf_X3_isLeastOfCycle
theorem dX3_leastOf_0 : decode cX3_leastOf 0 = .ok (.iconst 0, 1) := by decide +kernel
theorem dX3_leastOf_1 : decode cX3_leastOf 1 = .ok (.istore_n 2, 1) := by decide +kernel
theorem dX3_leastOf_2 : decode cX3_leastOf 2 = .ok (.bipush (-20), 2) := by decide +kernel
theorem dX3_leastOf_4 : decode cX3_leastOf 4 = .ok (.istore_n 3, 1) := by decide +kernel
theorem dX3_leastOf_5 : decode cX3_leastOf 5 = .ok (.iload_n 3, 1) := by decide +kernel
theorem dX3_leastOf_6 : decode cX3_leastOf 6 = .ok (.bipush 20, 2) := by decide +kernel
theorem dX3_leastOf_8 : decode cX3_leastOf 8 = .ok (.if_icmp .gt 27, 3) := by decide +kernel
theorem dX3_leastOf_11 : decode cX3_leastOf 11 = .ok (.aload_n 0, 1) := by decide +kernel
theorem dX3_leastOf_12 : decode cX3_leastOf 12 = .ok (.iload_n 3, 1) := by decide +kernel
theorem dX3_leastOf_13 : decode cX3_leastOf 13 = .ok (.invokevirtual 21, 3) := by decide +kernel
theorem dX3_leastOf_16 : decode cX3_leastOf 16 = .ok (.ifCond .eq 13, 3) := by decide +kernel
theorem dX3_leastOf_19 : decode cX3_leastOf 19 = .ok (.iload_n 2, 1) := by decide +kernel
theorem dX3_leastOf_20 : decode cX3_leastOf 20 = .ok (.iload_n 1, 1) := by decide +kernel
theorem dX3_leastOf_21 : decode cX3_leastOf 21 = .ok (.if_icmp .ne 5, 3) := by decide +kernel
theorem dX3_leastOf_24 : decode cX3_leastOf 24 = .ok (.iload_n 3, 1) := by decide +kernel
theorem dX3_leastOf_25 : decode cX3_leastOf 25 = .ok (.ireturn, 1) := by decide +kernel
theorem dX3_leastOf_26 : decode cX3_leastOf 26 = .ok (.iinc 2 1, 3) := by decide +kernel
theorem dX3_leastOf_29 : decode cX3_leastOf 29 = .ok (.iinc 3 1, 3) := by decide +kernel
theorem dX3_leastOf_32 : decode cX3_leastOf 32 = .ok (.goto (-27), 3) := by decide +kernel
theorem dX3_leastOf_35 : decode cX3_leastOf 35 = .ok (.ldc 25, 2) := by decide +kernel
theorem dX3_leastOf_37 : decode cX3_leastOf 37 = .ok (.ireturn, 1) := by decide +kernel
set_option maxRecDepth 20000 in
theorem ggX3_elementsFrom_X0_carryBehind : GoodIn wsX3_elementsFrom wsX0_carryBehind := goodIn_r _ [5, 6, 7, 8, 9, 3, 10, 11, 12, 13, 14, 15, 16, 17, 18, 19, 20, 21, 22, 24, 25, 26, 27, 28, 29, 30] (by decide +kernel) (by decide +kernel)
set_option maxRecDepth 20000 in
theorem gX3_elementsFrom_X0_carryBehind_n15 : GoodIn wsX3_elementsFrom (wsX0_carryBehind) := ggX3_elementsFrom_X0_carryBehind
theorem dX3_elementsFrom_0 : decode cX3_elementsFrom 0 = .ok (.iconst 1, 1) := by decide +kernel
theorem dX3_elementsFrom_1 : decode cX3_elementsFrom 1 = .ok (.istore_n 2, 1) := by decide +kernel
theorem dX3_elementsFrom_2 : decode cX3_elementsFrom 2 = .ok (.aload_n 0, 1) := by decide +kernel
theorem dX3_elementsFrom_3 : decode cX3_elementsFrom 3 = .ok (.getfield 9, 3) := by decide +kernel
theorem dX3_elementsFrom_6 : decode cX3_elementsFrom 6 = .ok (.iload_n 1, 1) := by decide +kernel
theorem dX3_elementsFrom_7 : decode cX3_elementsFrom 7 = .ok (.iconst 0, 1) := by decide +kernel
theorem dX3_elementsFrom_8 : decode cX3_elementsFrom 8 = .ok (.invokevirtual 15, 3) := by decide +kernel
theorem dX3_elementsFrom_11 : decode cX3_elementsFrom 11 = .ok (.istore_n 3, 1) := by decide +kernel
theorem dX3_elementsFrom_12 : decode cX3_elementsFrom 12 = .ok (.iconst 0, 1) := by decide +kernel
theorem dX3_elementsFrom_13 : decode cX3_elementsFrom 13 = .ok (.istore 4, 2) := by decide +kernel
theorem dX3_elementsFrom_15 : decode cX3_elementsFrom 15 = .ok (.iload 4, 2) := by decide +kernel
theorem dX3_elementsFrom_17 : decode cX3_elementsFrom 17 = .ok (.bipush 40, 2) := by decide +kernel
theorem dX3_elementsFrom_19 : decode cX3_elementsFrom 19 = .ok (.if_icmp .gt 27, 3) := by decide +kernel
theorem dX3_elementsFrom_22 : decode cX3_elementsFrom 22 = .ok (.iload_n 3, 1) := by decide +kernel
theorem dX3_elementsFrom_23 : decode cX3_elementsFrom 23 = .ok (.iload_n 1, 1) := by decide +kernel
theorem dX3_elementsFrom_24 : decode cX3_elementsFrom 24 = .ok (.if_icmp .eq 22, 3) := by decide +kernel
theorem dX3_elementsFrom_27 : decode cX3_elementsFrom 27 = .ok (.aload_n 0, 1) := by decide +kernel
theorem dX3_elementsFrom_28 : decode cX3_elementsFrom 28 = .ok (.getfield 9, 3) := by decide +kernel
theorem dX3_elementsFrom_31 : decode cX3_elementsFrom 31 = .ok (.iload_n 3, 1) := by decide +kernel
theorem dX3_elementsFrom_32 : decode cX3_elementsFrom 32 = .ok (.iconst 0, 1) := by decide +kernel
theorem dX3_elementsFrom_33 : decode cX3_elementsFrom 33 = .ok (.invokevirtual 15, 3) := by decide +kernel
theorem dX3_elementsFrom_36 : decode cX3_elementsFrom 36 = .ok (.istore_n 3, 1) := by decide +kernel
theorem dX3_elementsFrom_37 : decode cX3_elementsFrom 37 = .ok (.iinc 2 1, 3) := by decide +kernel
theorem dX3_elementsFrom_40 : decode cX3_elementsFrom 40 = .ok (.iinc 4 1, 3) := by decide +kernel
theorem dX3_elementsFrom_43 : decode cX3_elementsFrom 43 = .ok (.goto (-28), 3) := by decide +kernel
theorem dX3_elementsFrom_46 : decode cX3_elementsFrom 46 = .ok (.iload_n 2, 1) := by decide +kernel
theorem dX3_elementsFrom_47 : decode cX3_elementsFrom 47 = .ok (.ireturn, 1) := by decide +kernel
set_option maxRecDepth 20000 in
theorem ggX3_greatestFrom_X0_carryBehind : GoodIn wsX3_greatestFrom wsX0_carryBehind := goodIn_r _ [9, 10, 11, 12, 13, 7, 14, 15, 16, 17, 18, 19, 20, 21, 22, 23, 24, 25, 26, 28, 29, 30, 31, 32, 33, 34] (by decide +kernel) (by decide +kernel)
set_option maxRecDepth 20000 in
theorem gX3_greatestFrom_X0_carryBehind_n15 : GoodIn wsX3_greatestFrom (wsX0_carryBehind) := ggX3_greatestFrom_X0_carryBehind
theorem dX3_greatestFrom_0 : decode cX3_greatestFrom 0 = .ok (.iload_n 1, 1) := by decide +kernel
theorem dX3_greatestFrom_1 : decode cX3_greatestFrom 1 = .ok (.istore_n 2, 1) := by decide +kernel
theorem dX3_greatestFrom_2 : decode cX3_greatestFrom 2 = .ok (.iload_n 1, 1) := by decide +kernel
theorem dX3_greatestFrom_3 : decode cX3_greatestFrom 3 = .ok (.istore_n 3, 1) := by decide +kernel
theorem dX3_greatestFrom_4 : decode cX3_greatestFrom 4 = .ok (.iconst 0, 1) := by decide +kernel
theorem dX3_greatestFrom_5 : decode cX3_greatestFrom 5 = .ok (.istore 4, 2) := by decide +kernel
theorem dX3_greatestFrom_7 : decode cX3_greatestFrom 7 = .ok (.iload 4, 2) := by decide +kernel
theorem dX3_greatestFrom_9 : decode cX3_greatestFrom 9 = .ok (.bipush 40, 2) := by decide +kernel
theorem dX3_greatestFrom_11 : decode cX3_greatestFrom 11 = .ok (.if_icmp .gt 25, 3) := by decide +kernel
theorem dX3_greatestFrom_14 : decode cX3_greatestFrom 14 = .ok (.aload_n 0, 1) := by decide +kernel
theorem dX3_greatestFrom_15 : decode cX3_greatestFrom 15 = .ok (.getfield 9, 3) := by decide +kernel
theorem dX3_greatestFrom_18 : decode cX3_greatestFrom 18 = .ok (.iload_n 3, 1) := by decide +kernel
theorem dX3_greatestFrom_19 : decode cX3_greatestFrom 19 = .ok (.iconst 0, 1) := by decide +kernel
theorem dX3_greatestFrom_20 : decode cX3_greatestFrom 20 = .ok (.invokevirtual 15, 3) := by decide +kernel
theorem dX3_greatestFrom_23 : decode cX3_greatestFrom 23 = .ok (.istore_n 3, 1) := by decide +kernel
theorem dX3_greatestFrom_24 : decode cX3_greatestFrom 24 = .ok (.iload_n 2, 1) := by decide +kernel
theorem dX3_greatestFrom_25 : decode cX3_greatestFrom 25 = .ok (.iload_n 3, 1) := by decide +kernel
theorem dX3_greatestFrom_26 : decode cX3_greatestFrom 26 = .ok (.invokestatic 26, 3) := by decide +kernel
theorem dX3_greatestFrom_29 : decode cX3_greatestFrom 29 = .ok (.istore_n 2, 1) := by decide +kernel
theorem dX3_greatestFrom_30 : decode cX3_greatestFrom 30 = .ok (.iinc 4 1, 3) := by decide +kernel
theorem dX3_greatestFrom_33 : decode cX3_greatestFrom 33 = .ok (.goto (-26), 3) := by decide +kernel
theorem dX3_greatestFrom_36 : decode cX3_greatestFrom 36 = .ok (.iload_n 2, 1) := by decide +kernel
theorem dX3_greatestFrom_37 : decode cX3_greatestFrom 37 = .ok (.ireturn, 1) := by decide +kernel
set_option maxRecDepth 20000 in
theorem ggX3_numberOf_X0_carryBehind : GoodIn wsX3_numberOf wsX0_carryBehind := goodIn_r _ [9, 10, 11, 12, 13, 7, 14, 15, 16, 17, 18, 19, 20, 21, 22, 23, 24, 25, 26, 37, 38, 39, 40, 41, 42, 43] (by decide +kernel) (by decide +kernel)
set_option maxRecDepth 20000 in
theorem gX3_numberOf_X0_carryBehind_n15 : GoodIn wsX3_numberOf (wsX0_carryBehind) := ggX3_numberOf_X0_carryBehind
set_option maxRecDepth 20000 in
theorem ggX3_numberOf_X3_countUpTo : GoodIn wsX3_numberOf wsX3_countUpTo := goodIn_r _ [31, 32, 33, 34, 30, 35, 1, 6, 7, 8, 9, 10, 11, 12, 13, 14, 15, 16, 17, 18, 19, 20, 21, 22, 23, 24, 25, 26, 36, 37, 38, 39, 40, 41, 42, 43] (by decide +kernel) (by decide +kernel)
set_option maxRecDepth 20000 in
theorem gX3_numberOf_X3_countUpTo : GoodIn wsX3_numberOf (wsV RX3 34 RX3 yX3_countUpTo wsX3_countUpTo) := goodIn_app (goodIn_of _ (by decide +kernel)) ggX3_numberOf_X3_countUpTo
theorem dX3_numberOf_0 : decode cX3_numberOf 0 = .ok (.iload_n 1, 1) := by decide +kernel
theorem dX3_numberOf_1 : decode cX3_numberOf 1 = .ok (.istore_n 2, 1) := by decide +kernel
theorem dX3_numberOf_2 : decode cX3_numberOf 2 = .ok (.iload_n 1, 1) := by decide +kernel
theorem dX3_numberOf_3 : decode cX3_numberOf 3 = .ok (.istore_n 3, 1) := by decide +kernel
theorem dX3_numberOf_4 : decode cX3_numberOf 4 = .ok (.iconst 0, 1) := by decide +kernel
theorem dX3_numberOf_5 : decode cX3_numberOf 5 = .ok (.istore 4, 2) := by decide +kernel
theorem dX3_numberOf_7 : decode cX3_numberOf 7 = .ok (.iload 4, 2) := by decide +kernel
theorem dX3_numberOf_9 : decode cX3_numberOf 9 = .ok (.bipush 40, 2) := by decide +kernel
theorem dX3_numberOf_11 : decode cX3_numberOf 11 = .ok (.if_icmp .gt 25, 3) := by decide +kernel
theorem dX3_numberOf_14 : decode cX3_numberOf 14 = .ok (.aload_n 0, 1) := by decide +kernel
theorem dX3_numberOf_15 : decode cX3_numberOf 15 = .ok (.getfield 9, 3) := by decide +kernel
theorem dX3_numberOf_18 : decode cX3_numberOf 18 = .ok (.iload_n 3, 1) := by decide +kernel
theorem dX3_numberOf_19 : decode cX3_numberOf 19 = .ok (.iconst 0, 1) := by decide +kernel
theorem dX3_numberOf_20 : decode cX3_numberOf 20 = .ok (.invokevirtual 15, 3) := by decide +kernel
theorem dX3_numberOf_23 : decode cX3_numberOf 23 = .ok (.istore_n 3, 1) := by decide +kernel
theorem dX3_numberOf_24 : decode cX3_numberOf 24 = .ok (.iload_n 2, 1) := by decide +kernel
theorem dX3_numberOf_25 : decode cX3_numberOf 25 = .ok (.iload_n 3, 1) := by decide +kernel
theorem dX3_numberOf_26 : decode cX3_numberOf 26 = .ok (.invokestatic 31, 3) := by decide +kernel
theorem dX3_numberOf_29 : decode cX3_numberOf 29 = .ok (.istore_n 2, 1) := by decide +kernel
theorem dX3_numberOf_30 : decode cX3_numberOf 30 = .ok (.iinc 4 1, 3) := by decide +kernel
theorem dX3_numberOf_33 : decode cX3_numberOf 33 = .ok (.goto (-26), 3) := by decide +kernel
theorem dX3_numberOf_36 : decode cX3_numberOf 36 = .ok (.aload_n 0, 1) := by decide +kernel
theorem dX3_numberOf_37 : decode cX3_numberOf 37 = .ok (.iload_n 2, 1) := by decide +kernel
theorem dX3_numberOf_38 : decode cX3_numberOf 38 = .ok (.invokevirtual 34, 3) := by decide +kernel
theorem dX3_numberOf_41 : decode cX3_numberOf 41 = .ok (.iconst 1, 1) := by decide +kernel
theorem dX3_numberOf_42 : decode cX3_numberOf 42 = .ok (.isub, 1) := by decide +kernel
theorem dX3_numberOf_43 : decode cX3_numberOf 43 = .ok (.ireturn, 1) := by decide +kernel
theorem dX4_init_0 : decode cX4_init 0 = .ok (.aload_n 0, 1) := by decide +kernel
theorem dX4_init_1 : decode cX4_init 1 = .ok (.invokespecial 3, 3) := by decide +kernel
theorem dX4_init_4 : decode cX4_init 4 = .ok (.aload_n 0, 1) := by decide +kernel
theorem dX4_init_5 : decode cX4_init 5 = .ok (.lconst 1, 1) := by decide +kernel
theorem dX4_init_6 : decode cX4_init 6 = .ok (.putfield 9, 3) := by decide +kernel
theorem dX4_init_9 : decode cX4_init 9 = .ok (.return_, 1) := by decide +kernel
set_option maxRecDepth 20000 in
theorem ggX4_read_X6_entryOrZero : GoodIn wsX4_read wsX6_entryOrZero := goodIn_r _ [6, 7, 8, 18, 19] (by decide +kernel) (by decide +kernel)
set_option maxRecDepth 20000 in
theorem gX4_read_X6_entryOrZero_n24 : GoodIn wsX4_read (wsX6_entryOrZero) := ggX4_read_X6_entryOrZero
set_option maxRecDepth 20000 in
theorem ggX4_read_X9_commonDivisor : GoodIn wsX4_read wsX9_commonDivisor := goodIn_r _ [11, 12, 13, 14, 15] (by decide +kernel) (by decide +kernel)
set_option maxRecDepth 20000 in
theorem gX4_read_X9_commonDivisor_n36 : GoodIn wsX4_read (wsX9_commonDivisor) := ggX4_read_X9_commonDivisor
theorem dX4_read_0 : decode cX4_read 0 = .ok (.aload_n 0, 1) := by decide +kernel
theorem dX4_read_1 : decode cX4_read 1 = .ok (.lconst 0, 1) := by decide +kernel
theorem dX4_read_2 : decode cX4_read 2 = .ok (.putfield 15, 3) := by decide +kernel
theorem dX4_read_5 : decode cX4_read 5 = .ok (.aload_n 0, 1) := by decide +kernel
theorem dX4_read_6 : decode cX4_read 6 = .ok (.lconst 1, 1) := by decide +kernel
theorem dX4_read_7 : decode cX4_read 7 = .ok (.putfield 9, 3) := by decide +kernel
theorem dX4_read_10 : decode cX4_read 10 = .ok (.aload_n 2, 1) := by decide +kernel
theorem dX4_read_11 : decode cX4_read 11 = .ok (.getfield 18, 3) := by decide +kernel
theorem dX4_read_14 : decode cX4_read 14 = .ok (.iconst 1, 1) := by decide +kernel
theorem dX4_read_15 : decode cX4_read 15 = .ok (.isub, 1) := by decide +kernel
theorem dX4_read_16 : decode cX4_read 16 = .ok (.istore_n 3, 1) := by decide +kernel
theorem dX4_read_17 : decode cX4_read 17 = .ok (.iload_n 3, 1) := by decide +kernel
theorem dX4_read_18 : decode cX4_read 18 = .ok (.ifCond .lt 49, 3) := by decide +kernel
theorem dX4_read_21 : decode cX4_read 21 = .ok (.aload_n 0, 1) := by decide +kernel
theorem dX4_read_22 : decode cX4_read 22 = .ok (.aload_n 2, 1) := by decide +kernel
theorem dX4_read_23 : decode cX4_read 23 = .ok (.iload_n 3, 1) := by decide +kernel
theorem dX4_read_24 : decode cX4_read 24 = .ok (.invokevirtual 24, 3) := by decide +kernel
theorem dX4_read_27 : decode cX4_read 27 = .ok (.i2l, 1) := by decide +kernel
theorem dX4_read_28 : decode cX4_read 28 = .ok (.aload_n 0, 1) := by decide +kernel
theorem dX4_read_29 : decode cX4_read 29 = .ok (.getfield 9, 3) := by decide +kernel
theorem dX4_read_32 : decode cX4_read 32 = .ok (.lmul, 1) := by decide +kernel
theorem dX4_read_33 : decode cX4_read 33 = .ok (.aload_n 1, 1) := by decide +kernel
theorem dX4_read_34 : decode cX4_read 34 = .ok (.getfield 28, 3) := by decide +kernel
theorem dX4_read_37 : decode cX4_read 37 = .ok (.i2l, 1) := by decide +kernel
theorem dX4_read_38 : decode cX4_read 38 = .ok (.aload_n 0, 1) := by decide +kernel
theorem dX4_read_39 : decode cX4_read 39 = .ok (.getfield 15, 3) := by decide +kernel
theorem dX4_read_42 : decode cX4_read 42 = .ok (.lmul, 1) := by decide +kernel
theorem dX4_read_43 : decode cX4_read 43 = .ok (.ladd, 1) := by decide +kernel
theorem dX4_read_44 : decode cX4_read 44 = .ok (.putfield 15, 3) := by decide +kernel
theorem dX4_read_47 : decode cX4_read 47 = .ok (.aload_n 0, 1) := by decide +kernel
theorem dX4_read_48 : decode cX4_read 48 = .ok (.aload_n 0, 1) := by decide +kernel
theorem dX4_read_49 : decode cX4_read 49 = .ok (.getfield 9, 3) := by decide +kernel
theorem dX4_read_52 : decode cX4_read 52 = .ok (.aload_n 1, 1) := by decide +kernel
theorem dX4_read_53 : decode cX4_read 53 = .ok (.getfield 33, 3) := by decide +kernel
theorem dX4_read_56 : decode cX4_read 56 = .ok (.i2l, 1) := by decide +kernel
theorem dX4_read_57 : decode cX4_read 57 = .ok (.lmul, 1) := by decide +kernel
theorem dX4_read_58 : decode cX4_read 58 = .ok (.putfield 9, 3) := by decide +kernel
theorem dX4_read_61 : decode cX4_read 61 = .ok (.iinc 3 (-1), 3) := by decide +kernel
theorem dX4_read_64 : decode cX4_read 64 = .ok (.goto (-47), 3) := by decide +kernel
theorem dX4_read_67 : decode cX4_read 67 = .ok (.aload_n 0, 1) := by decide +kernel
theorem dX4_read_68 : decode cX4_read 68 = .ok (.getfield 15, 3) := by decide +kernel
theorem dX4_read_71 : decode cX4_read 71 = .ok (.aload_n 0, 1) := by decide +kernel
theorem dX4_read_72 : decode cX4_read 72 = .ok (.getfield 9, 3) := by decide +kernel
theorem dX4_read_75 : decode cX4_read 75 = .ok (.invokestatic 36, 3) := by decide +kernel
theorem dX4_read_78 : decode cX4_read 78 = .ok (.lstore_n 3, 1) := by decide +kernel
theorem dX4_read_79 : decode cX4_read 79 = .ok (.lload_n 3, 1) := by decide +kernel
theorem dX4_read_80 : decode cX4_read 80 = .ok (.lconst 1, 1) := by decide +kernel
theorem dX4_read_81 : decode cX4_read 81 = .ok (.lcmp, 1) := by decide +kernel
theorem dX4_read_82 : decode cX4_read 82 = .ok (.ifCond .le 23, 3) := by decide +kernel
theorem dX4_read_85 : decode cX4_read 85 = .ok (.aload_n 0, 1) := by decide +kernel
theorem dX4_read_86 : decode cX4_read 86 = .ok (.aload_n 0, 1) := by decide +kernel
theorem dX4_read_87 : decode cX4_read 87 = .ok (.getfield 15, 3) := by decide +kernel
theorem dX4_read_90 : decode cX4_read 90 = .ok (.lload_n 3, 1) := by decide +kernel
theorem dX4_read_91 : decode cX4_read 91 = .ok (.ldiv, 1) := by decide +kernel
theorem dX4_read_92 : decode cX4_read 92 = .ok (.putfield 15, 3) := by decide +kernel
theorem dX4_read_95 : decode cX4_read 95 = .ok (.aload_n 0, 1) := by decide +kernel
theorem dX4_read_96 : decode cX4_read 96 = .ok (.aload_n 0, 1) := by decide +kernel
theorem dX4_read_97 : decode cX4_read 97 = .ok (.getfield 9, 3) := by decide +kernel
theorem dX4_read_100 : decode cX4_read 100 = .ok (.lload_n 3, 1) := by decide +kernel
theorem dX4_read_101 : decode cX4_read 101 = .ok (.ldiv, 1) := by decide +kernel
theorem dX4_read_102 : decode cX4_read 102 = .ok (.putfield 9, 3) := by decide +kernel
theorem dX4_read_105 : decode cX4_read 105 = .ok (.return_, 1) := by decide +kernel
set_option maxRecDepth 20000 in
theorem ggX4_orderTo_J9_floorDiv_f86c9 : GoodIn wsX4_orderTo wsJ9_floorDiv_f86c9 := goodIn_r _ [6] (by decide +kernel) (by decide +kernel)
set_option maxRecDepth 20000 in
theorem gX4_orderTo_J9_floorDiv_f86c9 : GoodIn wsX4_orderTo (va_wsS RX4 40 yJ9_floorDiv_f86c9 wsJ9_floorDiv_f86c9) := goodIn_app (goodIn_of _ (by decide +kernel)) ggX4_orderTo_J9_floorDiv_f86c9
theorem dX4_orderTo_0 : decode cX4_orderTo 0 = .ok (.aload_n 0, 1) := by decide +kernel
theorem dX4_orderTo_1 : decode cX4_orderTo 1 = .ok (.getfield 15, 3) := by decide +kernel
theorem dX4_orderTo_4 : decode cX4_orderTo 4 = .ok (.lstore_n 2, 1) := by decide +kernel
theorem dX4_orderTo_5 : decode cX4_orderTo 5 = .ok (.aload_n 0, 1) := by decide +kernel
theorem dX4_orderTo_6 : decode cX4_orderTo 6 = .ok (.getfield 9, 3) := by decide +kernel
theorem dX4_orderTo_9 : decode cX4_orderTo 9 = .ok (.lstore 4, 2) := by decide +kernel
theorem dX4_orderTo_11 : decode cX4_orderTo 11 = .ok (.aload_n 1, 1) := by decide +kernel
theorem dX4_orderTo_12 : decode cX4_orderTo 12 = .ok (.getfield 15, 3) := by decide +kernel
theorem dX4_orderTo_15 : decode cX4_orderTo 15 = .ok (.lstore 6, 2) := by decide +kernel
theorem dX4_orderTo_17 : decode cX4_orderTo 17 = .ok (.aload_n 1, 1) := by decide +kernel
theorem dX4_orderTo_18 : decode cX4_orderTo 18 = .ok (.getfield 9, 3) := by decide +kernel
theorem dX4_orderTo_21 : decode cX4_orderTo 21 = .ok (.lstore 8, 2) := by decide +kernel
theorem dX4_orderTo_23 : decode cX4_orderTo 23 = .ok (.iconst 1, 1) := by decide +kernel
theorem dX4_orderTo_24 : decode cX4_orderTo 24 = .ok (.istore 10, 2) := by decide +kernel
theorem dX4_orderTo_26 : decode cX4_orderTo 26 = .ok (.iconst 0, 1) := by decide +kernel
theorem dX4_orderTo_27 : decode cX4_orderTo 27 = .ok (.istore 11, 2) := by decide +kernel
theorem dX4_orderTo_29 : decode cX4_orderTo 29 = .ok (.iload 11, 2) := by decide +kernel
theorem dX4_orderTo_31 : decode cX4_orderTo 31 = .ok (.sipush 200, 3) := by decide +kernel
theorem dX4_orderTo_34 : decode cX4_orderTo 34 = .ok (.if_icmp .ge 104, 3) := by decide +kernel
theorem dX4_orderTo_37 : decode cX4_orderTo 37 = .ok (.lload 4, 2) := by decide +kernel
theorem dX4_orderTo_39 : decode cX4_orderTo 39 = .ok (.lconst 0, 1) := by decide +kernel
theorem dX4_orderTo_40 : decode cX4_orderTo 40 = .ok (.lcmp, 1) := by decide +kernel
theorem dX4_orderTo_41 : decode cX4_orderTo 41 = .ok (.ifCond .eq 97, 3) := by decide +kernel
theorem dX4_orderTo_44 : decode cX4_orderTo 44 = .ok (.lload 8, 2) := by decide +kernel
theorem dX4_orderTo_46 : decode cX4_orderTo 46 = .ok (.lconst 0, 1) := by decide +kernel
theorem dX4_orderTo_47 : decode cX4_orderTo 47 = .ok (.lcmp, 1) := by decide +kernel
theorem dX4_orderTo_48 : decode cX4_orderTo 48 = .ok (.ifCond .eq 90, 3) := by decide +kernel
theorem dX4_orderTo_51 : decode cX4_orderTo 51 = .ok (.lload_n 2, 1) := by decide +kernel
theorem dX4_orderTo_52 : decode cX4_orderTo 52 = .ok (.lload 4, 2) := by decide +kernel
theorem dX4_orderTo_54 : decode cX4_orderTo 54 = .ok (.invokestatic 40, 3) := by decide +kernel
theorem dX4_orderTo_57 : decode cX4_orderTo 57 = .ok (.lstore 12, 2) := by decide +kernel
theorem dX4_orderTo_59 : decode cX4_orderTo 59 = .ok (.lload 6, 2) := by decide +kernel
theorem dX4_orderTo_61 : decode cX4_orderTo 61 = .ok (.lload 8, 2) := by decide +kernel
theorem dX4_orderTo_63 : decode cX4_orderTo 63 = .ok (.invokestatic 40, 3) := by decide +kernel
theorem dX4_orderTo_66 : decode cX4_orderTo 66 = .ok (.lstore 14, 2) := by decide +kernel
theorem dX4_orderTo_68 : decode cX4_orderTo 68 = .ok (.lload 12, 2) := by decide +kernel
theorem dX4_orderTo_70 : decode cX4_orderTo 70 = .ok (.lload 14, 2) := by decide +kernel
theorem dX4_orderTo_72 : decode cX4_orderTo 72 = .ok (.lcmp, 1) := by decide +kernel
theorem dX4_orderTo_73 : decode cX4_orderTo 73 = .ok (.ifCond .eq 20, 3) := by decide +kernel
theorem dX4_orderTo_76 : decode cX4_orderTo 76 = .ok (.lload 12, 2) := by decide +kernel
theorem dX4_orderTo_78 : decode cX4_orderTo 78 = .ok (.lload 14, 2) := by decide +kernel
theorem dX4_orderTo_80 : decode cX4_orderTo 80 = .ok (.lcmp, 1) := by decide +kernel
theorem dX4_orderTo_81 : decode cX4_orderTo 81 = .ok (.ifCond .le 8, 3) := by decide +kernel
theorem dX4_orderTo_84 : decode cX4_orderTo 84 = .ok (.iload 10, 2) := by decide +kernel
theorem dX4_orderTo_86 : decode cX4_orderTo 86 = .ok (.goto 6, 3) := by decide +kernel
theorem dX4_orderTo_89 : decode cX4_orderTo 89 = .ok (.iload 10, 2) := by decide +kernel
theorem dX4_orderTo_91 : decode cX4_orderTo 91 = .ok (.ineg, 1) := by decide +kernel
theorem dX4_orderTo_92 : decode cX4_orderTo 92 = .ok (.ireturn, 1) := by decide +kernel
theorem dX4_orderTo_93 : decode cX4_orderTo 93 = .ok (.lload_n 2, 1) := by decide +kernel
theorem dX4_orderTo_94 : decode cX4_orderTo 94 = .ok (.lload 12, 2) := by decide +kernel
theorem dX4_orderTo_96 : decode cX4_orderTo 96 = .ok (.lload 4, 2) := by decide +kernel
theorem dX4_orderTo_98 : decode cX4_orderTo 98 = .ok (.lmul, 1) := by decide +kernel
theorem dX4_orderTo_99 : decode cX4_orderTo 99 = .ok (.lsub, 1) := by decide +kernel
theorem dX4_orderTo_100 : decode cX4_orderTo 100 = .ok (.lstore 16, 2) := by decide +kernel
theorem dX4_orderTo_102 : decode cX4_orderTo 102 = .ok (.lload 6, 2) := by decide +kernel
theorem dX4_orderTo_104 : decode cX4_orderTo 104 = .ok (.lload 14, 2) := by decide +kernel
theorem dX4_orderTo_106 : decode cX4_orderTo 106 = .ok (.lload 8, 2) := by decide +kernel
theorem dX4_orderTo_108 : decode cX4_orderTo 108 = .ok (.lmul, 1) := by decide +kernel
theorem dX4_orderTo_109 : decode cX4_orderTo 109 = .ok (.lsub, 1) := by decide +kernel
theorem dX4_orderTo_110 : decode cX4_orderTo 110 = .ok (.lstore 18, 2) := by decide +kernel
theorem dX4_orderTo_112 : decode cX4_orderTo 112 = .ok (.lload 4, 2) := by decide +kernel
theorem dX4_orderTo_114 : decode cX4_orderTo 114 = .ok (.lstore_n 2, 1) := by decide +kernel
theorem dX4_orderTo_115 : decode cX4_orderTo 115 = .ok (.lload 16, 2) := by decide +kernel
theorem dX4_orderTo_117 : decode cX4_orderTo 117 = .ok (.lstore 4, 2) := by decide +kernel
theorem dX4_orderTo_119 : decode cX4_orderTo 119 = .ok (.lload 8, 2) := by decide +kernel
theorem dX4_orderTo_121 : decode cX4_orderTo 121 = .ok (.lstore 6, 2) := by decide +kernel
theorem dX4_orderTo_123 : decode cX4_orderTo 123 = .ok (.lload 18, 2) := by decide +kernel
theorem dX4_orderTo_125 : decode cX4_orderTo 125 = .ok (.lstore 8, 2) := by decide +kernel
theorem dX4_orderTo_127 : decode cX4_orderTo 127 = .ok (.iload 10, 2) := by decide +kernel
theorem dX4_orderTo_129 : decode cX4_orderTo 129 = .ok (.ineg, 1) := by decide +kernel
theorem dX4_orderTo_130 : decode cX4_orderTo 130 = .ok (.istore 10, 2) := by decide +kernel
theorem dX4_orderTo_132 : decode cX4_orderTo 132 = .ok (.iinc 11 1, 3) := by decide +kernel
theorem dX4_orderTo_135 : decode cX4_orderTo 135 = .ok (.goto (-106), 3) := by decide +kernel
theorem dX4_orderTo_138 : decode cX4_orderTo 138 = .ok (.lload 4, 2) := by decide +kernel
theorem dX4_orderTo_140 : decode cX4_orderTo 140 = .ok (.lconst 0, 1) := by decide +kernel
theorem dX4_orderTo_141 : decode cX4_orderTo 141 = .ok (.lcmp, 1) := by decide +kernel
theorem dX4_orderTo_142 : decode cX4_orderTo 142 = .ok (.ifCond .ne 12, 3) := by decide +kernel
theorem dX4_orderTo_145 : decode cX4_orderTo 145 = .ok (.lload 8, 2) := by decide +kernel
theorem dX4_orderTo_147 : decode cX4_orderTo 147 = .ok (.lconst 0, 1) := by decide +kernel
theorem dX4_orderTo_148 : decode cX4_orderTo 148 = .ok (.lcmp, 1) := by decide +kernel
theorem dX4_orderTo_149 : decode cX4_orderTo 149 = .ok (.ifCond .ne 5, 3) := by decide +kernel
theorem dX4_orderTo_152 : decode cX4_orderTo 152 = .ok (.iconst 0, 1) := by decide +kernel
theorem dX4_orderTo_153 : decode cX4_orderTo 153 = .ok (.ireturn, 1) := by decide +kernel
theorem dX4_orderTo_154 : decode cX4_orderTo 154 = .ok (.lload 4, 2) := by decide +kernel
theorem dX4_orderTo_156 : decode cX4_orderTo 156 = .ok (.lconst 0, 1) := by decide +kernel
theorem dX4_orderTo_157 : decode cX4_orderTo 157 = .ok (.lcmp, 1) := by decide +kernel
theorem dX4_orderTo_158 : decode cX4_orderTo 158 = .ok (.ifCond .ne 8, 3) := by decide +kernel
theorem dX4_orderTo_161 : decode cX4_orderTo 161 = .ok (.iload 10, 2) := by decide +kernel
theorem dX4_orderTo_163 : decode cX4_orderTo 163 = .ok (.goto 6, 3) := by decide +kernel
theorem dX4_orderTo_166 : decode cX4_orderTo 166 = .ok (.iload 10, 2) := by decide +kernel
theorem dX4_orderTo_168 : decode cX4_orderTo 168 = .ok (.ineg, 1) := by decide +kernel
theorem dX4_orderTo_169 : decode cX4_orderTo 169 = .ok (.ireturn, 1) := by decide +kernel
theorem dX5_init_0 : decode cX5_init 0 = .ok (.aload_n 0, 1) := by decide +kernel
theorem dX5_init_1 : decode cX5_init 1 = .ok (.invokespecial 1, 3) := by decide +kernel
theorem dX5_init_4 : decode cX5_init 4 = .ok (.aload_n 0, 1) := by decide +kernel
theorem dX5_init_5 : decode cX5_init 5 = .ok (.aload_n 1, 1) := by decide +kernel
theorem dX5_init_6 : decode cX5_init 6 = .ok (.putfield 7, 3) := by decide +kernel
theorem dX5_init_9 : decode cX5_init 9 = .ok (.aload_n 0, 1) := by decide +kernel
theorem dX5_init_10 : decode cX5_init 10 = .ok (.aload_n 2, 1) := by decide +kernel
theorem dX5_init_11 : decode cX5_init 11 = .ok (.putfield 13, 3) := by decide +kernel
theorem dX5_init_14 : decode cX5_init 14 = .ok (.aload_n 0, 1) := by decide +kernel
theorem dX5_init_15 : decode cX5_init 15 = .ok (.aload_n 3, 1) := by decide +kernel
theorem dX5_init_16 : decode cX5_init 16 = .ok (.putfield 17, 3) := by decide +kernel
theorem dX5_init_19 : decode cX5_init 19 = .ok (.aload_n 0, 1) := by decide +kernel
theorem dX5_init_20 : decode cX5_init 20 = .ok (.aload 4, 2) := by decide +kernel
theorem dX5_init_22 : decode cX5_init 22 = .ok (.putfield 21, 3) := by decide +kernel
theorem dX5_init_25 : decode cX5_init 25 = .ok (.aload_n 0, 1) := by decide +kernel
theorem dX5_init_26 : decode cX5_init 26 = .ok (.aload 5, 2) := by decide +kernel
theorem dX5_init_28 : decode cX5_init 28 = .ok (.putfield 25, 3) := by decide +kernel
theorem dX5_init_31 : decode cX5_init 31 = .ok (.return_, 1) := by decide +kernel
theorem dX6_init_0 : decode cX6_init 0 = .ok (.aload_n 0, 1) := by decide +kernel
theorem dX6_init_1 : decode cX6_init 1 = .ok (.invokespecial 3, 3) := by decide +kernel
theorem dX6_init_4 : decode cX6_init 4 = .ok (.aload_n 0, 1) := by decide +kernel
theorem dX6_init_5 : decode cX6_init 5 = .ok (.bipush 12, 2) := by decide +kernel
theorem dX6_init_7 : decode cX6_init 7 = .ok (.newarray .int, 2) := by decide +kernel
theorem dX6_init_9 : decode cX6_init 9 = .ok (.putfield 9, 3) := by decide +kernel
theorem dX6_init_12 : decode cX6_init 12 = .ok (.return_, 1) := by decide +kernel
theorem dX6_append_0 : decode cX6_append 0 = .ok (.aload_n 0, 1) := by decide +kernel
theorem dX6_append_1 : decode cX6_append 1 = .ok (.getfield 15, 3) := by decide +kernel
theorem dX6_append_4 : decode cX6_append 4 = .ok (.ifCond .lt 35, 3) := by decide +kernel
theorem dX6_append_7 : decode cX6_append 7 = .ok (.aload_n 0, 1) := by decide +kernel
theorem dX6_append_8 : decode cX6_append 8 = .ok (.getfield 15, 3) := by decide +kernel
theorem dX6_append_11 : decode cX6_append 11 = .ok (.aload_n 0, 1) := by decide +kernel
theorem dX6_append_12 : decode cX6_append 12 = .ok (.getfield 9, 3) := by decide +kernel
theorem dX6_append_15 : decode cX6_append 15 = .ok (.arraylength, 1) := by decide +kernel
theorem dX6_append_16 : decode cX6_append 16 = .ok (.if_icmp .ge 23, 3) := by decide +kernel
theorem dX6_append_19 : decode cX6_append 19 = .ok (.aload_n 0, 1) := by decide +kernel
theorem dX6_append_20 : decode cX6_append 20 = .ok (.getfield 9, 3) := by decide +kernel
theorem dX6_append_23 : decode cX6_append 23 = .ok (.aload_n 0, 1) := by decide +kernel
theorem dX6_append_24 : decode cX6_append 24 = .ok (.getfield 15, 3) := by decide +kernel
theorem dX6_append_27 : decode cX6_append 27 = .ok (.iload_n 1, 1) := by decide +kernel
theorem dX6_append_28 : decode cX6_append 28 = .ok (.iastore, 1) := by decide +kernel
theorem dX6_append_29 : decode cX6_append 29 = .ok (.aload_n 0, 1) := by decide +kernel
theorem dX6_append_30 : decode cX6_append 30 = .ok (.dup, 1) := by decide +kernel
theorem dX6_append_31 : decode cX6_append 31 = .ok (.getfield 15, 3) := by decide +kernel
theorem dX6_append_34 : decode cX6_append 34 = .ok (.iconst 1, 1) := by decide +kernel
theorem dX6_append_35 : decode cX6_append 35 = .ok (.iadd, 1) := by decide +kernel
theorem dX6_append_36 : decode cX6_append 36 = .ok (.putfield 15, 3) := by decide +kernel
theorem dX6_append_39 : decode cX6_append 39 = .ok (.return_, 1) := by decide +kernel
theorem dX6_entryOrZero_0 : decode cX6_entryOrZero 0 = .ok (.iload_n 1, 1) := by decide +kernel
theorem dX6_entryOrZero_1 : decode cX6_entryOrZero 1 = .ok (.ifCond .lt 29, 3) := by decide +kernel
theorem dX6_entryOrZero_4 : decode cX6_entryOrZero 4 = .ok (.iload_n 1, 1) := by decide +kernel
theorem dX6_entryOrZero_5 : decode cX6_entryOrZero 5 = .ok (.aload_n 0, 1) := by decide +kernel
theorem dX6_entryOrZero_6 : decode cX6_entryOrZero 6 = .ok (.getfield 15, 3) := by decide +kernel
theorem dX6_entryOrZero_9 : decode cX6_entryOrZero 9 = .ok (.if_icmp .ge 21, 3) := by decide +kernel
theorem dX6_entryOrZero_12 : decode cX6_entryOrZero 12 = .ok (.iload_n 1, 1) := by decide +kernel
theorem dX6_entryOrZero_13 : decode cX6_entryOrZero 13 = .ok (.aload_n 0, 1) := by decide +kernel
theorem dX6_entryOrZero_14 : decode cX6_entryOrZero 14 = .ok (.getfield 9, 3) := by decide +kernel
theorem dX6_entryOrZero_17 : decode cX6_entryOrZero 17 = .ok (.arraylength, 1) := by decide +kernel
theorem dX6_entryOrZero_18 : decode cX6_entryOrZero 18 = .ok (.if_icmp .ge 12, 3) := by decide +kernel
theorem dX6_entryOrZero_21 : decode cX6_entryOrZero 21 = .ok (.aload_n 0, 1) := by decide +kernel
theorem dX6_entryOrZero_22 : decode cX6_entryOrZero 22 = .ok (.getfield 9, 3) := by decide +kernel
theorem dX6_entryOrZero_25 : decode cX6_entryOrZero 25 = .ok (.iload_n 1, 1) := by decide +kernel
theorem dX6_entryOrZero_26 : decode cX6_entryOrZero 26 = .ok (.iaload, 1) := by decide +kernel
theorem dX6_entryOrZero_27 : decode cX6_entryOrZero 27 = .ok (.goto 4, 3) := by decide +kernel
theorem dX6_entryOrZero_30 : decode cX6_entryOrZero 30 = .ok (.iconst 0, 1) := by decide +kernel
theorem dX6_entryOrZero_31 : decode cX6_entryOrZero 31 = .ok (.ireturn, 1) := by decide +kernel
set_option maxRecDepth 20000 in
theorem ggX6_become_X6_entryOrZero : GoodIn wsX6_become wsX6_entryOrZero := goodIn_r _ [7, 2, 1, 8, 9] (by decide +kernel) (by decide +kernel)
set_option maxRecDepth 20000 in
theorem gX6_become_X6_entryOrZero : GoodIn wsX6_become (wsV RX6 19 RX6 yX6_entryOrZero wsX6_entryOrZero) := goodIn_app (goodIn_of _ (by decide +kernel)) ggX6_become_X6_entryOrZero
theorem dX6_become_0 : decode cX6_become 0 = .ok (.iconst 0, 1) := by decide +kernel
theorem dX6_become_1 : decode cX6_become 1 = .ok (.istore_n 2, 1) := by decide +kernel
theorem dX6_become_2 : decode cX6_become 2 = .ok (.iload_n 2, 1) := by decide +kernel
theorem dX6_become_3 : decode cX6_become 3 = .ok (.aload_n 0, 1) := by decide +kernel
theorem dX6_become_4 : decode cX6_become 4 = .ok (.getfield 9, 3) := by decide +kernel
theorem dX6_become_7 : decode cX6_become 7 = .ok (.arraylength, 1) := by decide +kernel
theorem dX6_become_8 : decode cX6_become 8 = .ok (.if_icmp .ge 20, 3) := by decide +kernel
theorem dX6_become_11 : decode cX6_become 11 = .ok (.aload_n 0, 1) := by decide +kernel
theorem dX6_become_12 : decode cX6_become 12 = .ok (.getfield 9, 3) := by decide +kernel
theorem dX6_become_15 : decode cX6_become 15 = .ok (.iload_n 2, 1) := by decide +kernel
theorem dX6_become_16 : decode cX6_become 16 = .ok (.aload_n 1, 1) := by decide +kernel
theorem dX6_become_17 : decode cX6_become 17 = .ok (.iload_n 2, 1) := by decide +kernel
theorem dX6_become_18 : decode cX6_become 18 = .ok (.invokevirtual 19, 3) := by decide +kernel
theorem dX6_become_21 : decode cX6_become 21 = .ok (.iastore, 1) := by decide +kernel
theorem dX6_become_22 : decode cX6_become 22 = .ok (.iinc 2 1, 3) := by decide +kernel
theorem dX6_become_25 : decode cX6_become 25 = .ok (.goto (-23), 3) := by decide +kernel
theorem dX6_become_28 : decode cX6_become 28 = .ok (.aload_n 0, 1) := by decide +kernel
theorem dX6_become_29 : decode cX6_become 29 = .ok (.aload_n 1, 1) := by decide +kernel
theorem dX6_become_30 : decode cX6_become 30 = .ok (.getfield 15, 3) := by decide +kernel
theorem dX6_become_33 : decode cX6_become 33 = .ok (.putfield 15, 3) := by decide +kernel
theorem dX6_become_36 : decode cX6_become 36 = .ok (.return_, 1) := by decide +kernel
set_option maxRecDepth 20000 in
theorem ggX6_dropZerosAtEnd_X6_entryOrZero : GoodIn wsX6_dropZerosAtEnd wsX6_entryOrZero := goodIn_r _ [7, 2, 1, 8, 9] (by decide +kernel) (by decide +kernel)
set_option maxRecDepth 20000 in
theorem gX6_dropZerosAtEnd_X6_entryOrZero : GoodIn wsX6_dropZerosAtEnd (wsV RX6 19 RX6 yX6_entryOrZero wsX6_entryOrZero) := goodIn_app (goodIn_of _ (by decide +kernel)) ggX6_dropZerosAtEnd_X6_entryOrZero
theorem dX6_dropZerosAtEnd_0 : decode cX6_dropZerosAtEnd 0 = .ok (.aload_n 0, 1) := by decide +kernel
theorem dX6_dropZerosAtEnd_1 : decode cX6_dropZerosAtEnd 1 = .ok (.getfield 9, 3) := by decide +kernel
theorem dX6_dropZerosAtEnd_4 : decode cX6_dropZerosAtEnd 4 = .ok (.arraylength, 1) := by decide +kernel
theorem dX6_dropZerosAtEnd_5 : decode cX6_dropZerosAtEnd 5 = .ok (.istore_n 1, 1) := by decide +kernel
theorem dX6_dropZerosAtEnd_6 : decode cX6_dropZerosAtEnd 6 = .ok (.iload_n 1, 1) := by decide +kernel
theorem dX6_dropZerosAtEnd_7 : decode cX6_dropZerosAtEnd 7 = .ok (.ifCond .le 39, 3) := by decide +kernel
theorem dX6_dropZerosAtEnd_10 : decode cX6_dropZerosAtEnd 10 = .ok (.aload_n 0, 1) := by decide +kernel
theorem dX6_dropZerosAtEnd_11 : decode cX6_dropZerosAtEnd 11 = .ok (.getfield 15, 3) := by decide +kernel
theorem dX6_dropZerosAtEnd_14 : decode cX6_dropZerosAtEnd 14 = .ok (.ifCond .le 32, 3) := by decide +kernel
theorem dX6_dropZerosAtEnd_17 : decode cX6_dropZerosAtEnd 17 = .ok (.aload_n 0, 1) := by decide +kernel
theorem dX6_dropZerosAtEnd_18 : decode cX6_dropZerosAtEnd 18 = .ok (.aload_n 0, 1) := by decide +kernel
theorem dX6_dropZerosAtEnd_19 : decode cX6_dropZerosAtEnd 19 = .ok (.getfield 15, 3) := by decide +kernel
theorem dX6_dropZerosAtEnd_22 : decode cX6_dropZerosAtEnd 22 = .ok (.iconst 1, 1) := by decide +kernel
theorem dX6_dropZerosAtEnd_23 : decode cX6_dropZerosAtEnd 23 = .ok (.isub, 1) := by decide +kernel
theorem dX6_dropZerosAtEnd_24 : decode cX6_dropZerosAtEnd 24 = .ok (.invokevirtual 19, 3) := by decide +kernel
theorem dX6_dropZerosAtEnd_27 : decode cX6_dropZerosAtEnd 27 = .ok (.ifCond .ne 19, 3) := by decide +kernel
theorem dX6_dropZerosAtEnd_30 : decode cX6_dropZerosAtEnd 30 = .ok (.aload_n 0, 1) := by decide +kernel
theorem dX6_dropZerosAtEnd_31 : decode cX6_dropZerosAtEnd 31 = .ok (.dup, 1) := by decide +kernel
theorem dX6_dropZerosAtEnd_32 : decode cX6_dropZerosAtEnd 32 = .ok (.getfield 15, 3) := by decide +kernel
theorem dX6_dropZerosAtEnd_35 : decode cX6_dropZerosAtEnd 35 = .ok (.iconst 1, 1) := by decide +kernel
theorem dX6_dropZerosAtEnd_36 : decode cX6_dropZerosAtEnd 36 = .ok (.isub, 1) := by decide +kernel
theorem dX6_dropZerosAtEnd_37 : decode cX6_dropZerosAtEnd 37 = .ok (.putfield 15, 3) := by decide +kernel
theorem dX6_dropZerosAtEnd_40 : decode cX6_dropZerosAtEnd 40 = .ok (.iinc 1 (-1), 3) := by decide +kernel
theorem dX6_dropZerosAtEnd_43 : decode cX6_dropZerosAtEnd 43 = .ok (.goto (-37), 3) := by decide +kernel
theorem dX6_dropZerosAtEnd_46 : decode cX6_dropZerosAtEnd 46 = .ok (.return_, 1) := by decide +kernel
