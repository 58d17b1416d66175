set_option maxRecDepth 20000 in
theorem ggL_law_X9_setBase : GoodIn wsL_law wsX9_setBase := goodIn_r _ [164, 165, 166, 167, 168, 169, 2, 170, 13, 171, 172, 173, 174, 74, 75, 76, 175, 176, 177, 178, 179, 180, 181, 182, 183, 68, 47, 69, 70, 71, 72, 73, 77, 78, 65, 79, 80, 81, 82, 66, 83, 84, 85, 86, 87, 88, 89, 90, 91, 92, 93, 94, 95, 96, 97, 98, 99, 100, 868, 869, 870, 871, 872, 861, 862, 863, 864, 865, 866, 867, 828, 829, 830, 831, 832] (by decide +kernel) (by decide +kernel)
set_option maxRecDepth 20000 in
theorem gL_law_X9_setBase : GoodIn wsL_law (wsV RL 13 RX9 yX9_setBase wsX9_setBase) := goodIn_app (goodIn_of _ (by decide +kernel)) ggL_law_X9_setBase
set_option maxRecDepth 20000 in
theorem ggL_law_X10_setBase : GoodIn wsL_law wsX10_setBase := goodIn_r _ [187, 188, 189, 190, 191, 5, 192, 193, 194, 195, 158, 159, 160, 196, 197, 198, 154, 155, 156, 157, 139, 140, 141, 142, 833, 834, 835, 836, 837, 838, 839, 840, 841, 842, 843, 844, 845, 846, 847, 848, 849, 850, 851, 852, 853] (by decide +kernel) (by decide +kernel)
set_option maxRecDepth 20000 in
theorem gL_law_X10_setBase : GoodIn wsL_law (wsV RL 17 RX10 yX10_setBase wsX10_setBase) := goodIn_app (goodIn_of _ (by decide +kernel)) ggL_law_X10_setBase
set_option maxRecDepth 20000 in
theorem ggL_law_X9_addDigit : GoodIn wsL_law wsX9_addDigit := goodIn_r _ [202, 165, 166, 203, 204, 167, 168, 169, 2, 170, 13, 175, 176, 177, 205, 47, 206, 207, 78, 65, 208, 209, 210, 79, 80, 81, 82, 66, 83, 84, 77, 85, 86, 87, 88, 89, 90, 91, 92, 93, 94, 95, 96, 97, 98, 99, 100, 868, 869, 870, 871, 872, 861, 862, 863, 864, 865, 866, 867, 828, 829, 830, 831, 832] (by decide +kernel) (by decide +kernel)
set_option maxRecDepth 20000 in
theorem gL_law_X9_addDigit : GoodIn wsL_law (wsV RL 18 RX9 yX9_addDigit wsX9_addDigit) := goodIn_app (goodIn_of _ (by decide +kernel)) ggL_law_X9_addDigit
set_option maxRecDepth 20000 in
theorem ggL_law_X10_addDigit : GoodIn wsL_law wsX10_addDigit := goodIn_r _ [214, 188, 189, 215, 141, 216, 142, 190, 191, 5, 192, 193, 194, 195, 217, 218, 219, 220, 833, 834, 835, 836, 837, 838, 839, 840, 841, 842, 843, 844, 845, 846, 847, 848, 849, 850, 851, 852, 853] (by decide +kernel) (by decide +kernel)
set_option maxRecDepth 20000 in
theorem gL_law_X10_addDigit : GoodIn wsL_law (wsV RL 22 RX10 yX10_addDigit wsX10_addDigit) := goodIn_app (goodIn_of _ (by decide +kernel)) ggL_law_X10_addDigit
set_option maxRecDepth 20000 in
theorem ggL_law_X9_removeDigit : GoodIn wsL_law wsX9_removeDigit := goodIn_r _ [224, 165, 203, 167, 168, 169, 2, 170, 13, 205, 47, 206, 207, 78, 65, 225, 226, 227, 79, 80, 81, 82, 66, 83, 84, 77, 85, 86, 87, 88, 89, 90, 91, 92, 93, 94, 95, 96, 97, 98, 99, 100, 868, 869, 870, 871, 872, 861, 862, 863, 864, 865, 866, 867, 828, 829, 830, 831, 832] (by decide +kernel) (by decide +kernel)
set_option maxRecDepth 20000 in
theorem gL_law_X9_removeDigit : GoodIn wsL_law (wsV RL 23 RX9 yX9_removeDigit wsX9_removeDigit) := goodIn_app (goodIn_of _ (by decide +kernel)) ggL_law_X9_removeDigit
set_option maxRecDepth 20000 in
theorem ggL_law_X10_removeDigit : GoodIn wsL_law wsX10_removeDigit := goodIn_r _ [231, 188, 215, 141, 142, 190, 191, 5, 192, 193, 194, 195, 217, 218, 219, 220, 833, 834, 835, 836, 837, 838, 839, 840, 841, 842, 843, 844, 845, 846, 847, 848, 849, 850, 851, 852, 853] (by decide +kernel) (by decide +kernel)
set_option maxRecDepth 20000 in
theorem gL_law_X10_removeDigit : GoodIn wsL_law (wsV RL 26 RX10 yX10_removeDigit wsX10_removeDigit) := goodIn_app (goodIn_of _ (by decide +kernel)) ggL_law_X10_removeDigit
set_option maxRecDepth 20000 in
theorem ggL_law_X9_choose : GoodIn wsL_law wsX9_choose := goodIn_r _ [235, 165, 203, 167, 168, 169, 2, 170, 13, 205, 47, 206, 207, 78, 65, 236, 237, 238, 79, 80, 81, 82, 66, 83, 84, 77, 85, 86, 87, 88, 89, 90, 91, 92, 93, 94, 95, 96, 97, 98, 99, 100, 868, 869, 870, 871, 872, 828, 829, 830, 831, 832, 861, 862, 863, 864, 865, 866, 867] (by decide +kernel) (by decide +kernel)
set_option maxRecDepth 20000 in
theorem gL_law_X9_choose : GoodIn wsL_law (wsV RL 27 RX9 yX9_choose wsX9_choose) := goodIn_app (goodIn_of _ (by decide +kernel)) ggL_law_X9_choose
set_option maxRecDepth 20000 in
theorem ggL_law_X10_choose : GoodIn wsL_law wsX10_choose := goodIn_r _ [242, 188, 215, 142, 190, 191, 5, 192, 193, 194, 195, 217, 218, 219, 220, 141, 833, 834, 835, 836, 837, 838, 839, 840, 841, 842, 843, 844, 845, 846, 847, 848, 849, 850, 851, 852, 853] (by decide +kernel) (by decide +kernel)
set_option maxRecDepth 20000 in
theorem gL_law_X10_choose : GoodIn wsL_law (wsV RL 30 RX10 yX10_choose wsX10_choose) := goodIn_app (goodIn_of _ (by decide +kernel)) ggL_law_X10_choose
set_option maxRecDepth 20000 in
theorem ggL_law_X9_digitAt : GoodIn wsL_law wsX9_digitAt := goodIn_r _ [246, 165, 167, 168, 169, 2, 170, 13, 86, 47, 87, 88, 65, 868, 869, 870, 871, 872, 861, 862, 863, 864, 865, 866, 867, 828, 829, 830, 831, 832] (by decide +kernel) (by decide +kernel)
set_option maxRecDepth 20000 in
theorem gL_law_X9_digitAt : GoodIn wsL_law (wsV RL 31 RX9 yX9_digitAt wsX9_digitAt) := goodIn_app (goodIn_of _ (by decide +kernel)) ggL_law_X9_digitAt
set_option maxRecDepth 20000 in
theorem ggL_law_X10_digitAt : GoodIn wsL_law wsX10_digitAt := goodIn_r _ [250, 141, 188, 142, 190, 191, 5, 192, 193, 194, 195, 833, 834, 835, 836, 837, 838, 839, 840, 841, 842, 843, 844, 845, 846, 847, 848, 849, 850, 851, 852, 853] (by decide +kernel) (by decide +kernel)
set_option maxRecDepth 20000 in
theorem gL_law_X10_digitAt : GoodIn wsL_law (wsV RL 34 RX10 yX10_digitAt wsX10_digitAt) := goodIn_app (goodIn_of _ (by decide +kernel)) ggL_law_X10_digitAt
set_option maxRecDepth 20000 in
theorem ggL_law_X9_chosen : GoodIn wsL_law wsX9_chosen := goodIn_r _ [254, 165, 166, 167, 168, 169, 2, 170, 13, 98, 47, 99, 100, 77, 66, 83, 93, 94, 95, 96, 868, 869, 870, 871, 872, 861, 862, 863, 864, 865, 866, 867, 828, 829, 830, 831, 832] (by decide +kernel) (by decide +kernel)
set_option maxRecDepth 20000 in
theorem gL_law_X9_chosen : GoodIn wsL_law (wsV RL 35 RX9 yX9_chosen wsX9_chosen) := goodIn_app (goodIn_of _ (by decide +kernel)) ggL_law_X9_chosen
set_option maxRecDepth 20000 in
theorem ggL_law_X10_chosen : GoodIn wsL_law wsX10_chosen := goodIn_r _ [258, 188, 139, 189, 259, 190, 191, 5, 192, 193, 194, 195, 158, 159, 160, 260, 261, 262, 263, 141, 142, 264, 265, 266, 267, 268, 269, 270, 271, 833, 834, 835, 836, 837, 838, 839, 840, 841, 842, 843, 844, 845, 846, 847, 848, 849, 850, 851, 852, 853] (by decide +kernel) (by decide +kernel)
set_option maxRecDepth 20000 in
theorem gL_law_X10_chosen : GoodIn wsL_law (wsV RL 38 RX10 yX10_chosen wsX10_chosen) := goodIn_app (goodIn_of _ (by decide +kernel)) ggL_law_X10_chosen
set_option maxRecDepth 20000 in
theorem ggL_law_X9_system : GoodIn wsL_law wsX9_system := goodIn_r _ [275, 165, 166, 167, 168, 169, 2, 170, 13, 276, 47, 277, 278, 78, 73, 74, 75, 76, 279, 280, 281, 85, 86, 87, 88, 65, 868, 869, 870, 871, 872, 861, 862, 863, 864, 865, 866, 867, 828, 829, 830, 831, 832] (by decide +kernel) (by decide +kernel)
set_option maxRecDepth 20000 in
theorem gL_law_X9_system : GoodIn wsL_law (wsV RL 39 RX9 yX9_system wsX9_system) := goodIn_app (goodIn_of _ (by decide +kernel)) ggL_law_X9_system
