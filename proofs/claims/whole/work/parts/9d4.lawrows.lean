set_option maxRecDepth 20000 in
theorem ggL_law_X10_push : GoodIn wsL_law wsX10_push := goodIn_r _ [620, 188, 189, 149, 216, 150, 621, 622, 5, 623, 193, 194, 195, 833, 834, 835, 836, 837, 838, 839, 840, 841, 842, 843, 844, 845, 846, 847, 848, 849, 850, 851, 852, 853] (by decide +kernel) (by decide +kernel)
set_option maxRecDepth 20000 in
theorem gL_law_X10_push : GoodIn wsL_law (wsV RL 97 RX10 yX10_push wsX10_push) := goodIn_app (goodIn_of _ (by decide +kernel)) ggL_law_X10_push
set_option maxRecDepth 20000 in
theorem ggL_law_X9_clear : GoodIn wsL_law wsX9_clear := goodIn_r _ [627, 165, 609, 610, 611, 2, 612, 15, 859, 860, 828, 829, 830, 831, 832] (by decide +kernel) (by decide +kernel)
set_option maxRecDepth 20000 in
theorem gL_law_X9_clear : GoodIn wsL_law (wsV RL 98 RX9 yX9_clear wsX9_clear) := goodIn_app (goodIn_of _ (by decide +kernel)) ggL_law_X9_clear
set_option maxRecDepth 20000 in
theorem ggL_law_X10_clear : GoodIn wsL_law wsX10_clear := goodIn_r _ [631, 188, 149, 621, 622, 5, 623, 193, 194, 195, 833, 834, 835, 836, 837, 838, 839, 840, 841, 842, 843, 844, 845, 846, 847, 848, 849, 850, 851, 852, 853] (by decide +kernel) (by decide +kernel)
set_option maxRecDepth 20000 in
theorem gL_law_X10_clear : GoodIn wsL_law (wsV RL 101 RX10 yX10_clear wsX10_clear) := goodIn_app (goodIn_of _ (by decide +kernel)) ggL_law_X10_clear
set_option maxRecDepth 20000 in
theorem ggL_law_X9_size : GoodIn wsL_law wsX9_size := goodIn_r _ [635, 165, 609, 610, 611, 2, 612, 15, 859, 860, 828, 829, 830, 831, 832] (by decide +kernel) (by decide +kernel)
set_option maxRecDepth 20000 in
theorem gL_law_X9_size : GoodIn wsL_law (wsV RL 102 RX9 yX9_size wsX9_size) := goodIn_app (goodIn_of _ (by decide +kernel)) ggL_law_X9_size
set_option maxRecDepth 20000 in
theorem ggL_law_X10_size : GoodIn wsL_law wsX10_size := goodIn_r _ [639, 188, 149, 621, 622, 5, 623, 193, 194, 195, 833, 834, 835, 836, 837, 838, 839, 840, 841, 842, 843, 844, 845, 846, 847, 848, 849, 850, 851, 852, 853] (by decide +kernel) (by decide +kernel)
set_option maxRecDepth 20000 in
theorem gL_law_X10_size : GoodIn wsL_law (wsV RL 105 RX10 yX10_size wsX10_size) := goodIn_app (goodIn_of _ (by decide +kernel)) ggL_law_X10_size
set_option maxRecDepth 20000 in
theorem ggL_law_X9_entry : GoodIn wsL_law wsX9_entry := goodIn_r _ [643, 165, 609, 610, 611, 2, 612, 15, 644, 26, 645, 646, 616, 37, 859, 860, 828, 829, 830, 831, 832] (by decide +kernel) (by decide +kernel)
set_option maxRecDepth 20000 in
theorem gL_law_X9_entry : GoodIn wsL_law (wsV RL 106 RX9 yX9_entry wsX9_entry) := goodIn_app (goodIn_of _ (by decide +kernel)) ggL_law_X9_entry
set_option maxRecDepth 20000 in
theorem ggL_law_X10_entry : GoodIn wsL_law wsX10_entry := goodIn_r _ [650, 149, 188, 150, 621, 622, 5, 623, 193, 194, 195, 833, 834, 835, 836, 837, 838, 839, 840, 841, 842, 843, 844, 845, 846, 847, 848, 849, 850, 851, 852, 853] (by decide +kernel) (by decide +kernel)
set_option maxRecDepth 20000 in
theorem gL_law_X10_entry : GoodIn wsL_law (wsV RL 109 RX10 yX10_entry wsX10_entry) := goodIn_app (goodIn_of _ (by decide +kernel)) ggL_law_X10_entry
set_option maxRecDepth 20000 in
theorem ggL_law_X9_value : GoodIn wsL_law wsX9_value := goodIn_r _ [654, 655, 23, 167, 168, 169, 2, 170, 13, 609, 610, 611, 612, 15, 656, 22, 657, 658, 659, 41, 644, 26, 645, 646, 616, 37, 179, 180, 181, 182, 75, 183, 828, 829, 830, 831, 832, 868, 869, 870, 871, 872, 857, 858, 859, 860, 861, 862, 863, 864, 865, 866, 867] (by decide +kernel) (by decide +kernel)
set_option maxRecDepth 20000 in
theorem gL_law_X9_value : GoodIn wsL_law (wsV RL 110 RX9 yX9_value wsX9_value) := goodIn_app (goodIn_of _ (by decide +kernel)) ggL_law_X9_value
set_option maxRecDepth 20000 in
theorem ggL_law_X10_value : GoodIn wsL_law wsX10_value := goodIn_r _ [663, 664, 665, 190, 191, 5, 192, 193, 194, 195, 621, 622, 623, 666, 667, 668, 669, 670, 671, 672, 673, 149, 150, 139, 140, 196, 197, 198, 833, 834, 835, 836, 837, 838, 839, 840, 841, 842, 843, 844, 845, 846, 847, 848, 849, 850, 851, 852, 853] (by decide +kernel) (by decide +kernel)
set_option maxRecDepth 20000 in
theorem gL_law_X10_value : GoodIn wsL_law (wsV RL 114 RX10 yX10_value wsX10_value) := goodIn_app (goodIn_of _ (by decide +kernel)) ggL_law_X10_value
set_option maxRecDepth 20000 in
theorem ggL_law_X9_compare : GoodIn wsL_law wsX9_compare := goodIn_r _ [677, 165, 23, 24, 167, 168, 169, 2, 170, 13, 609, 610, 611, 612, 15, 656, 22, 657, 658, 659, 41, 644, 26, 645, 646, 616, 37, 179, 180, 181, 182, 75, 183, 678, 679, 680, 681, 682, 95, 683, 828, 829, 830, 831, 832, 868, 869, 870, 871, 872, 857, 858, 859, 860, 861, 862, 863, 864, 865, 866, 867] (by decide +kernel) (by decide +kernel)
set_option maxRecDepth 20000 in
theorem gL_law_X9_compare : GoodIn wsL_law (wsV RL 115 RX9 yX9_compare wsX9_compare) := goodIn_app (goodIn_of _ (by decide +kernel)) ggL_law_X9_compare
set_option maxRecDepth 20000 in
theorem ggL_law_X10_compare : GoodIn wsL_law wsX10_compare := goodIn_r _ [687, 188, 665, 664, 190, 191, 5, 192, 193, 194, 195, 621, 622, 623, 670, 671, 672, 673, 149, 150, 139, 140, 196, 197, 198, 688, 689, 690, 691, 692, 693, 833, 834, 835, 836, 837, 838, 839, 840, 841, 842, 843, 844, 845, 846, 847, 848, 849, 850, 851, 852, 853] (by decide +kernel) (by decide +kernel)
set_option maxRecDepth 20000 in
theorem gL_law_X10_compare : GoodIn wsL_law (wsV RL 118 RX10 yX10_compare wsX10_compare) := goodIn_app (goodIn_of _ (by decide +kernel)) ggL_law_X10_compare
set_option maxRecDepth 20000 in
theorem ggL_law_X9_load : GoodIn wsL_law wsX9_load := goodIn_r _ [697, 165, 298, 166, 300, 167, 168, 169, 2, 170, 13, 609, 610, 611, 612, 15, 175, 176, 177, 698, 699, 700, 203, 204, 302, 52, 303, 304, 305, 104, 105, 106, 306, 307, 308, 309, 107, 90, 47, 91, 92, 77, 93, 94, 95, 96, 310, 311, 312, 313, 314, 315, 316, 317, 318, 98, 99, 100, 66, 83, 319, 320, 321, 71, 322, 323, 324, 325, 326, 327, 328, 329, 330, 331, 341, 342, 343, 338, 339, 340, 613, 26, 614, 615, 616, 37, 868, 869, 870, 871, 872, 861, 862, 863, 864, 865, 866, 867, 828, 829, 830, 831, 832, 873, 874, 875, 876, 877, 878, 879, 859, 860] (by decide +kernel) (by decide +kernel)
set_option maxRecDepth 20000 in
theorem gL_law_X9_load : GoodIn wsL_law (wsV RL 119 RX9 yX9_load wsX9_load) := goodIn_app (goodIn_of _ (by decide +kernel)) ggL_law_X9_load
set_option maxRecDepth 20000 in
theorem ggL_law_X10_load : GoodIn wsL_law wsX10_load := goodIn_r _ [704, 188, 352, 353, 189, 355, 190, 191, 5, 192, 193, 194, 195, 621, 622, 623, 286, 287, 288, 289, 139, 158, 159, 160, 260, 261, 262, 263, 141, 142, 264, 265, 266, 267, 705, 706, 707, 708, 215, 216, 150, 149, 406, 407, 408, 409, 360, 361, 268, 269, 270, 271, 362, 363, 364, 365, 366, 367, 368, 369, 140, 370, 371, 372, 373, 833, 834, 835, 836, 837, 838, 839, 840, 841, 842, 843, 844, 845, 846, 847, 848, 849, 850, 851, 852, 853] (by decide +kernel) (by decide +kernel)
set_option maxRecDepth 20000 in
theorem gL_law_X10_load : GoodIn wsL_law (wsV RL 122 RX10 yX10_load wsX10_load) := goodIn_app (goodIn_of _ (by decide +kernel)) ggL_law_X10_load
