theorem y_idx {big ws : List Cond} (is : List Nat) (h : is.filterMap (fun i => big[i]?) = ws) : ∀ w ∈ ws, w ∈ big := by
  intro w hw
  rw [← h] at hw
  obtain ⟨i, -, hi⟩ := List.mem_filterMap.mp hw
  exact List.mem_of_getElem? hi
theorem y_app {big a b : List Cond} (h1 : ∀ w ∈ a, w ∈ big) (h2 : ∀ w ∈ b, w ∈ big) : ∀ w ∈ a ++ b, w ∈ big := fun w h => (List.mem_append.mp h).elim (h1 w) (h2 w)
set_option maxRecDepth 100000 in
theorem lin_wsL_law_r1 : ∀ w ∈ wsL_law_r1, w ∈ lw_tbl := y_idx [104, 105, 92, 815, 816, 103, 106, 107, 108, 109, 110, 111, 112, 355, 114, 356, 116, 117, 93, 357, 150, 151, 95, 358] (by decide +kernel)
set_option maxRecDepth 100000 in
theorem lin_wsL_law_r2 : ∀ w ∈ wsL_law_r2, w ∈ lw_tbl := y_idx [359, 123, 94, 119, 120, 121, 138, 139, 122, 141, 125, 126, 127, 128, 153, 154, 155, 158, 165, 166, 167, 168, 169, 96] (by decide +kernel)
set_option maxRecDepth 100000 in
theorem lin_wsL_law_r3 : ∀ w ∈ wsL_law_r3, w ∈ lw_tbl := y_idx [237, 98, 238, 239, 99, 269, 270, 100, 279, 280, 101, 308, 309, 102, 171, 172, 173, 220, 221, 174, 176, 0, 177, 201] (by decide +kernel)
set_option maxRecDepth 100000 in
theorem lin_wsL_law_r4 : ∀ w ∈ wsL_law_r4, w ∈ lw_tbl := y_idx [205, 178, 179, 97, 180, 211, 214, 181, 183, 1, 184, 185, 218, 186, 188, 2, 189, 190, 192, 3, 193, 194, 195, 97] (by decide +kernel)
set_option maxRecDepth 100000 in
theorem lin_wsL_law_r5 : ∀ w ∈ wsL_law_r5, w ∈ lw_tbl := y_idx [196, 197, 199, 4, 200, 241, 242, 243, 246, 247, 250, 244, 272, 273, 274, 275, 282, 283, 284, 286, 287, 307, 288, 285] (by decide +kernel)
set_option maxRecDepth 100000 in
theorem lin_wsL_law_r6 : ∀ w ∈ wsL_law_r6, w ∈ lw_tbl := y_idx [311, 312, 313, 315, 328, 316, 314, 330, 331, 332, 333, 335, 337, 339, 341, 817, 818, 819, 820, 828, 829, 830, 831, 835] (by decide +kernel)
set_option maxRecDepth 100000 in
theorem lin_wsL_law_r7 : ∀ w ∈ wsL_law_r7, w ∈ lw_tbl := y_idx [836, 837, 838, 839, 840, 841, 842, 846, 847, 848, 821, 823, 66, 824, 825, 826, 827, 371, 372, 373, 374, 379, 393, 375] (by decide +kernel)
set_option maxRecDepth 100000 in
theorem lin_wsL_law_r8 : ∀ w ∈ wsL_law_r8, w ∈ lw_tbl := y_idx [377, 5, 378, 380, 381, 382, 386, 383, 384, 385, 387, 388, 389, 390, 391, 392, 892, 893, 894, 895, 902, 906, 896, 897] (by decide +kernel)
set_option maxRecDepth 100000 in
theorem lin_wsL_law_r9 : ∀ w ∈ wsL_law_r9, w ∈ lw_tbl := y_idx [898, 899, 900, 901, 903, 904, 905, 395, 396, 397, 398, 403, 404, 401, 6, 402, 407, 7, 408, 907, 908, 909, 910, 915] (by decide +kernel)
set_option maxRecDepth 100000 in
theorem lin_wsL_law_r10 : ∀ w ∈ wsL_law_r10, w ∈ lw_tbl := y_idx [916, 911, 913, 67, 914, 409, 410, 411, 412, 415, 8, 416, 917, 918, 919, 920, 417, 418, 419, 420, 423, 9, 424, 921] (by decide +kernel)
set_option maxRecDepth 100000 in
theorem lin_wsL_law_r11 : ∀ w ∈ wsL_law_r11, w ∈ lw_tbl := y_idx [922, 923, 924, 425, 426, 427, 428, 925, 926, 927, 928, 430, 431, 432, 433, 929, 930, 931, 932, 941, 933, 935, 68, 936] (by decide +kernel)
set_option maxRecDepth 100000 in
theorem lin_wsL_law_r12 : ∀ w ∈ wsL_law_r12, w ∈ lw_tbl := y_idx [937, 939, 69, 940, 942, 944, 70, 945, 435, 436, 437, 438, 441, 10, 442, 443, 444, 445, 946, 947, 948, 949, 950, 952] (by decide +kernel)
set_option maxRecDepth 100000 in
theorem lin_wsL_law_r13 : ∀ w ∈ wsL_law_r13, w ∈ lw_tbl := y_idx [71, 953, 446, 447, 448, 449, 450, 452, 11, 453, 454, 455, 456, 503, 459, 12, 460, 245, 461, 463, 13, 464, 466, 468] (by decide +kernel)
set_option maxRecDepth 100000 in
theorem lin_wsL_law_r14 : ∀ w ∈ wsL_law_r14, w ∈ lw_tbl := y_idx [14, 469, 470, 471, 473, 15, 474, 478, 16, 479, 480, 482, 17, 483, 484, 486, 18, 487, 248, 252, 490, 19, 491, 492] (by decide +kernel)
set_option maxRecDepth 100000 in
theorem lin_wsL_law_r15 : ∀ w ∈ wsL_law_r15, w ∈ lw_tbl := y_idx [493, 494, 497, 20, 498, 501, 21, 502, 954, 955, 956, 957, 958, 960, 72, 961, 962, 963, 964, 965, 966, 968, 73, 969] (by decide +kernel)
set_option maxRecDepth 100000 in
theorem lin_wsL_law_r16 : ∀ w ∈ wsL_law_r16, w ∈ lw_tbl := y_idx [832, 833, 970, 972, 74, 973, 974, 976, 75, 977, 978, 980, 76, 981, 504, 505, 506, 507, 982, 983, 984, 985, 508, 509] (by decide +kernel)
set_option maxRecDepth 100000 in
theorem lin_wsL_law_r17 : ∀ w ∈ wsL_law_r17, w ∈ lw_tbl := y_idx [510, 511, 986, 987, 988, 989, 512, 513, 514, 515, 990, 991, 992, 993, 516, 517, 518, 519, 994, 995, 996, 997, 998, 1000] (by decide +kernel)
set_option maxRecDepth 100000 in
theorem lin_wsL_law_r18 : ∀ w ∈ wsL_law_r18, w ∈ lw_tbl := y_idx [77, 1001, 520, 521, 522, 523, 526, 22, 527, 528, 530, 23, 531, 534, 24, 535, 536, 1002, 1003, 1004, 1005, 834, 1006, 1008] (by decide +kernel)
set_option maxRecDepth 100000 in
theorem lin_wsL_law_r19 : ∀ w ∈ wsL_law_r19, w ∈ lw_tbl := y_idx [78, 1009, 1010, 1012, 79, 1013, 537, 538, 539, 540, 543, 25, 544, 545, 548, 26, 549, 552, 27, 553, 554, 1014, 1015, 1016] (by decide +kernel)
set_option maxRecDepth 100000 in
theorem lin_wsL_law_r20 : ∀ w ∈ wsL_law_r20, w ∈ lw_tbl := y_idx [1017, 555, 556, 557, 558, 561, 28, 562, 563, 564, 1018, 1019, 1020, 1021, 565, 566, 567, 568, 571, 29, 572, 1022, 1023, 1024] (by decide +kernel)
set_option maxRecDepth 100000 in
theorem lin_wsL_law_r21 : ∀ w ∈ wsL_law_r21, w ∈ lw_tbl := y_idx [1025, 573, 574, 575, 576, 640, 641, 579, 30, 580, 289, 581, 583, 31, 584, 605, 587, 32, 588, 589, 592, 33, 593, 594] (by decide +kernel)
set_option maxRecDepth 100000 in
theorem lin_wsL_law_r22 : ∀ w ∈ wsL_law_r22, w ∈ lw_tbl := y_idx [596, 34, 597, 598, 599, 600, 601, 603, 35, 604, 606, 608, 36, 609, 610, 612, 37, 613, 614, 616, 38, 617, 619, 621] (by decide +kernel)
set_option maxRecDepth 100000 in
theorem lin_wsL_law_r23 : ∀ w ∈ wsL_law_r23, w ∈ lw_tbl := y_idx [39, 622, 625, 40, 626, 628, 630, 41, 631, 632, 634, 42, 635, 636, 638, 43, 639, 1026, 1027, 1028, 1029, 1030, 1032, 80] (by decide +kernel)
set_option maxRecDepth 100000 in
theorem lin_wsL_law_r24 : ∀ w ∈ wsL_law_r24, w ∈ lw_tbl := y_idx [1033, 1046, 1034, 1036, 81, 1037, 1038, 1040, 82, 1041, 1042, 1044, 83, 1045, 642, 643, 644, 645, 646, 649, 44, 650, 290, 291] (by decide +kernel)
set_option maxRecDepth 100000 in
theorem lin_wsL_law_r25 : ∀ w ∈ wsL_law_r25, w ∈ lw_tbl := y_idx [651, 652, 654, 45, 655, 1047, 1048, 1049, 1050, 1051, 656, 657, 658, 659, 662, 46, 663, 664, 666, 47, 667, 668, 670, 48] (by decide +kernel)
set_option maxRecDepth 100000 in
theorem lin_wsL_law_r26 : ∀ w ∈ wsL_law_r26, w ∈ lw_tbl := y_idx [671, 1052, 1053, 1054, 1055, 672, 673, 674, 675, 676, 678, 49, 679, 682, 50, 683, 129, 1056, 1057, 1058, 1059, 1060, 1061, 1062] (by decide +kernel)
set_option maxRecDepth 100000 in
theorem lin_wsL_law_r27 : ∀ w ∈ wsL_law_r27, w ∈ lw_tbl := y_idx [684, 685, 686, 687, 1063, 1064, 1065, 1066, 688, 689, 690, 691, 1067, 1068, 1069, 1070, 692, 693, 694, 695, 698, 51, 699, 1071] (by decide +kernel)
set_option maxRecDepth 100000 in
theorem lin_wsL_law_r28 : ∀ w ∈ wsL_law_r28, w ∈ lw_tbl := y_idx [1072, 1073, 1074, 700, 701, 702, 703, 704, 707, 52, 708, 156, 1075, 1076, 1077, 1078, 844, 843, 1079, 1080, 1081, 1082, 1083, 1085] (by decide +kernel)
set_option maxRecDepth 100000 in
theorem lin_wsL_law_r29 : ∀ w ∈ wsL_law_r29, w ∈ lw_tbl := y_idx [84, 1086, 711, 712, 713, 714, 717, 53, 718, 719, 720, 721, 1087, 1088, 1089, 1090, 1091, 1092, 1093, 1094, 1095, 1096, 722, 723] (by decide +kernel)
set_option maxRecDepth 100000 in
theorem lin_wsL_law_r30 : ∀ w ∈ wsL_law_r30, w ∈ lw_tbl := y_idx [724, 725, 726, 727, 728, 1097, 1098, 1099, 1100, 1101, 1103, 85, 1104, 730, 731, 732, 733, 736, 54, 737, 738, 140, 740, 742] (by decide +kernel)
set_option maxRecDepth 100000 in
theorem lin_wsL_law_r31 : ∀ w ∈ wsL_law_r31, w ∈ lw_tbl := y_idx [55, 743, 746, 56, 747, 748, 750, 57, 751, 758, 58, 759, 760, 763, 59, 764, 1105, 1106, 1107, 1108, 845, 1109, 1111, 86] (by decide +kernel)
set_option maxRecDepth 100000 in
theorem lin_wsL_law_r32 : ∀ w ∈ wsL_law_r32, w ∈ lw_tbl := y_idx [1112, 1113, 1115, 87, 1116, 1117, 1119, 88, 1120, 765, 766, 767, 768, 771, 60, 772, 1121, 1122, 1123, 1124, 773, 774, 775, 776] (by decide +kernel)
set_option maxRecDepth 100000 in
theorem lin_wsL_law_r33 : ∀ w ∈ wsL_law_r33, w ∈ lw_tbl := y_idx [777, 778, 1125, 1126, 1127, 1128, 1129, 1130, 779, 780, 781, 782, 1131, 1132, 1133, 1134, 784, 785, 786, 787, 790, 61, 791, 317] (by decide +kernel)
set_option maxRecDepth 100000 in
theorem lin_wsL_law_r34 : ∀ w ∈ wsL_law_r34, w ∈ lw_tbl := y_idx [792, 794, 62, 795, 796, 798, 63, 799, 802, 804, 64, 805, 1135, 1136, 1137, 1138, 1139, 1141, 89, 1142, 1143, 1145, 90, 1146] (by decide +kernel)
set_option maxRecDepth 100000 in
theorem lin_wsL_law_r35 : ∀ w ∈ wsL_law_r35, w ∈ lw_tbl := y_idx [806, 807, 808, 809, 812, 65, 813, 814, 1147, 1148, 1149, 1150] (by decide +kernel)
set_option maxRecDepth 100000 in
theorem lin_wsX90 : ∀ w ∈ wsX90, w ∈ lw_tbl := y_idx [360, 362, 364, 366, 368] (by decide +kernel)
set_option maxRecDepth 100000 in
theorem lin_wsX100 : ∀ w ∈ wsX100, w ∈ lw_tbl := y_idx [849, 851, 853, 855, 857, 859, 861, 863, 865, 867, 869, 871, 873, 875, 877, 879, 881, 883, 885, 887, 889] (by decide +kernel)
set_option maxRecDepth 100000 in
theorem lin_wsX20 : ∀ w ∈ wsX20, w ∈ lw_tbl := y_idx [143, 145, 147] (by decide +kernel)
set_option maxRecDepth 100000 in
theorem lin_wsX40 : ∀ w ∈ wsX40, w ∈ lw_tbl := y_idx [160, 162] (by decide +kernel)
set_option maxRecDepth 100000 in
theorem lin_wsX60 : ∀ w ∈ wsX60, w ∈ lw_tbl := y_idx [133, 135] (by decide +kernel)
set_option maxRecDepth 100000 in
theorem lin_wsX00 : ∀ w ∈ wsX00, w ∈ lw_tbl := y_idx [222, 224, 226, 228, 230, 232, 234] (by decide +kernel)
set_option maxRecDepth 100000 in
theorem lin_wsX50 : ∀ w ∈ wsX50, w ∈ lw_tbl := y_idx [343, 345, 347, 349, 351] (by decide +kernel)
set_option maxRecDepth 100000 in
theorem lin_wsX70 : ∀ w ∈ wsX70, w ∈ lw_tbl := y_idx [254, 256, 258, 260, 262, 264, 266] (by decide +kernel)
set_option maxRecDepth 100000 in
theorem lin_wsX30 : ∀ w ∈ wsX30, w ∈ lw_tbl := y_idx [276] (by decide +kernel)
set_option maxRecDepth 100000 in
theorem lin_wsX80 : ∀ w ∈ wsX80, w ∈ lw_tbl := y_idx [292, 294, 296, 298, 300, 302, 304] (by decide +kernel)
set_option maxRecDepth 100000 in
theorem lin_wsX10 : ∀ w ∈ wsX10, w ∈ lw_tbl := y_idx [319, 321, 323, 325] (by decide +kernel)
set_option maxRecDepth 20000 in
theorem wsL_law_in : ∀ w ∈ wsL_law, w ∈ lw_tbl := (y_app (y_app (y_app (y_app (y_app (y_app (y_app (y_app (y_app (y_app (y_app (y_app (y_app lin_wsL_law_r1 (y_app lin_wsL_law_r2 (y_app lin_wsL_law_r3 (y_app lin_wsL_law_r4 (y_app lin_wsL_law_r5 (y_app lin_wsL_law_r6 (y_app lin_wsL_law_r7 (y_app lin_wsL_law_r8 (y_app lin_wsL_law_r9 (y_app lin_wsL_law_r10 (y_app lin_wsL_law_r11 (y_app lin_wsL_law_r12 (y_app lin_wsL_law_r13 (y_app lin_wsL_law_r14 (y_app lin_wsL_law_r15 (y_app lin_wsL_law_r16 (y_app lin_wsL_law_r17 (y_app lin_wsL_law_r18 (y_app lin_wsL_law_r19 (y_app lin_wsL_law_r20 (y_app lin_wsL_law_r21 (y_app lin_wsL_law_r22 (y_app lin_wsL_law_r23 (y_app lin_wsL_law_r24 (y_app lin_wsL_law_r25 (y_app lin_wsL_law_r26 (y_app lin_wsL_law_r27 (y_app lin_wsL_law_r28 (y_app lin_wsL_law_r29 (y_app lin_wsL_law_r30 (y_app lin_wsL_law_r31 (y_app lin_wsL_law_r32 (y_app lin_wsL_law_r33 (y_app lin_wsL_law_r34 lin_wsL_law_r35)))))))))))))))))))))))))))))))))) lin_wsX90) lin_wsX100) lin_wsX20) lin_wsX40) lin_wsX60) lin_wsX00) lin_wsX50) lin_wsX70) lin_wsX30) lin_wsX80) lin_wsX10) (fun _ h => absurd h List.not_mem_nil))
theorem inlX0 : ∀ w ∈ wsX00, w ∈ wsL_law := fun _ h => List.mem_append_left _ (List.mem_append_left _ (List.mem_append_left _ (List.mem_append_left _ (List.mem_append_left _ (List.mem_append_left _ (List.mem_append_right _ h))))))
theorem inX0 : ∀ w ∈ wsX00, w ∈ lw_tbl := fun w h => wsL_law_in w (inlX0 w h)
theorem inlX1 : ∀ w ∈ wsX10, w ∈ wsL_law := fun _ h => List.mem_append_left _ (List.mem_append_right _ h)
theorem inX1 : ∀ w ∈ wsX10, w ∈ lw_tbl := fun w h => wsL_law_in w (inlX1 w h)
theorem inlX2 : ∀ w ∈ wsX20, w ∈ wsL_law := fun _ h => List.mem_append_left _ (List.mem_append_left _ (List.mem_append_left _ (List.mem_append_left _ (List.mem_append_left _ (List.mem_append_left _ (List.mem_append_left _ (List.mem_append_left _ (List.mem_append_left _ (List.mem_append_right _ h)))))))))
theorem inX2 : ∀ w ∈ wsX20, w ∈ lw_tbl := fun w h => wsL_law_in w (inlX2 w h)
theorem inlX3 : ∀ w ∈ wsX30, w ∈ wsL_law := fun _ h => List.mem_append_left _ (List.mem_append_left _ (List.mem_append_left _ (List.mem_append_right _ h)))
theorem inX3 : ∀ w ∈ wsX30, w ∈ lw_tbl := fun w h => wsL_law_in w (inlX3 w h)
theorem inlX4 : ∀ w ∈ wsX40, w ∈ wsL_law := fun _ h => List.mem_append_left _ (List.mem_append_left _ (List.mem_append_left _ (List.mem_append_left _ (List.mem_append_left _ (List.mem_append_left _ (List.mem_append_left _ (List.mem_append_left _ (List.mem_append_right _ h))))))))
theorem inX4 : ∀ w ∈ wsX40, w ∈ lw_tbl := fun w h => wsL_law_in w (inlX4 w h)
theorem inlX5 : ∀ w ∈ wsX50, w ∈ wsL_law := fun _ h => List.mem_append_left _ (List.mem_append_left _ (List.mem_append_left _ (List.mem_append_left _ (List.mem_append_left _ (List.mem_append_right _ h)))))
theorem inX5 : ∀ w ∈ wsX50, w ∈ lw_tbl := fun w h => wsL_law_in w (inlX5 w h)
theorem inlX6 : ∀ w ∈ wsX60, w ∈ wsL_law := fun _ h => List.mem_append_left _ (List.mem_append_left _ (List.mem_append_left _ (List.mem_append_left _ (List.mem_append_left _ (List.mem_append_left _ (List.mem_append_left _ (List.mem_append_right _ h)))))))
theorem inX6 : ∀ w ∈ wsX60, w ∈ lw_tbl := fun w h => wsL_law_in w (inlX6 w h)
theorem inlX7 : ∀ w ∈ wsX70, w ∈ wsL_law := fun _ h => List.mem_append_left _ (List.mem_append_left _ (List.mem_append_left _ (List.mem_append_left _ (List.mem_append_right _ h))))
theorem inX7 : ∀ w ∈ wsX70, w ∈ lw_tbl := fun w h => wsL_law_in w (inlX7 w h)
theorem inlX8 : ∀ w ∈ wsX80, w ∈ wsL_law := fun _ h => List.mem_append_left _ (List.mem_append_left _ (List.mem_append_right _ h))
theorem inX8 : ∀ w ∈ wsX80, w ∈ lw_tbl := fun w h => wsL_law_in w (inlX8 w h)
theorem inlX9 : ∀ w ∈ wsX90, w ∈ wsL_law := fun _ h => List.mem_append_left _ (List.mem_append_left _ (List.mem_append_left _ (List.mem_append_left _ (List.mem_append_left _ (List.mem_append_left _ (List.mem_append_left _ (List.mem_append_left _ (List.mem_append_left _ (List.mem_append_left _ (List.mem_append_left _ (List.mem_append_right _ h)))))))))))
theorem inX9 : ∀ w ∈ wsX90, w ∈ lw_tbl := fun w h => wsL_law_in w (inlX9 w h)
theorem inlX10 : ∀ w ∈ wsX100, w ∈ wsL_law := fun _ h => List.mem_append_left _ (List.mem_append_left _ (List.mem_append_left _ (List.mem_append_left _ (List.mem_append_left _ (List.mem_append_left _ (List.mem_append_left _ (List.mem_append_left _ (List.mem_append_left _ (List.mem_append_left _ (List.mem_append_right _ h))))))))))
theorem inX10 : ∀ w ∈ wsX100, w ∈ lw_tbl := fun w h => wsL_law_in w (inlX10 w h)
set_option maxRecDepth 20000 in
theorem ggL_law_X9_init : GoodIn wsL_law wsX9_init := goodIn_r _ [8, 9, 10, 11, 12, 13, 14, 15, 16, 17, 18, 19, 20, 21, 22, 23, 24, 25, 26, 27, 28, 29, 30, 31, 32, 33, 34, 35, 36, 37, 38, 39, 40, 41, 42, 43, 2, 44, 45, 46, 47, 48, 49, 50, 51, 52, 53, 54, 55, 56, 57, 58, 59, 60, 61, 62, 63, 64, 65, 66, 67, 68, 69, 70, 71, 72, 73, 74, 75, 76, 77, 78, 79, 80, 81, 82, 83, 84, 85, 86, 87, 88, 89, 90, 91, 92, 93, 94, 95, 96, 97, 98, 99, 100, 101, 102, 103, 104, 105, 106, 107, 108, 109, 110, 111, 112, 113, 114, 115, 116, 117, 118, 119, 120, 121, 122, 123, 124, 125, 126, 127, 128, 129, 130, 131, 132, 133, 134, 828, 829, 830, 831, 832, 854, 855, 856, 857, 858, 859, 860, 861, 862, 863, 864, 865, 866, 867, 868, 869, 870, 871, 872, 873, 874, 875, 876, 877, 878, 879, 880, 881, 882, 883, 884, 885, 886, 887, 888, 889, 890, 891] (by decide +kernel) (by decide +kernel)
set_option maxRecDepth 20000 in
theorem gL_law_X9_init : GoodIn wsL_law (wsX9_init) := ggL_law_X9_init
set_option maxRecDepth 20000 in
theorem ggL_law_X10_init : GoodIn wsL_law wsX10_init := goodIn_r _ [137, 138, 10, 11, 30, 139, 140, 141, 142, 143, 144, 145, 146, 147, 148, 149, 150, 151, 152, 124, 153, 154, 155, 156, 5, 157, 158, 159, 160, 833, 834, 835, 836, 837, 838, 839, 840, 841, 842, 843, 844, 845, 846, 847, 848, 849, 850, 851, 852, 853] (by decide +kernel) (by decide +kernel)
set_option maxRecDepth 20000 in
theorem gL_law_X10_init : GoodIn wsL_law (wsX10_init) := ggL_law_X10_init
