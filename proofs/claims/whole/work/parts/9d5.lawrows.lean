set_option maxRecDepth 20000 in
theorem ggL_law_X9_add : GoodIn wsL_law wsX9_add := goodIn_r _ [712, 165, 300, 19, 167, 168, 169, 2, 170, 13, 609, 610, 611, 612, 15, 713, 18, 714, 715, 716, 280, 75, 281, 717, 31, 644, 26, 645, 646, 616, 37, 718, 719, 720, 721, 204, 722, 723, 724, 33, 725, 726, 727, 728, 474, 47, 475, 476, 97, 98, 99, 100, 77, 66, 83, 93, 94, 95, 96, 613, 614, 615, 421, 422, 423, 72, 424, 319, 320, 321, 71, 729, 730, 731, 732, 733, 734, 735, 868, 869, 870, 871, 872, 861, 862, 863, 864, 865, 866, 867, 828, 829, 830, 831, 832, 859, 860, 854, 855, 856] (by decide +kernel) (by decide +kernel)
set_option maxRecDepth 20000 in
theorem gL_law_X9_add : GoodIn wsL_law (wsV RL 123 RX9 yX9_add wsX9_add) := goodIn_app (goodIn_of _ (by decide +kernel)) ggL_law_X9_add
set_option maxRecDepth 20000 in
theorem ggL_law_X10_add : GoodIn wsL_law wsX10_add := goodIn_r _ [739, 188, 355, 149, 740, 151, 150, 190, 191, 5, 192, 193, 194, 195, 621, 622, 623, 286, 287, 288, 289, 139, 158, 159, 160, 260, 261, 262, 263, 141, 142, 264, 265, 266, 267, 741, 742, 743, 744, 216, 152, 268, 269, 270, 271, 745, 746, 747, 748, 140, 749, 750, 751, 752, 833, 834, 835, 836, 837, 838, 839, 840, 841, 842, 843, 844, 845, 846, 847, 848, 849, 850, 851, 852, 853] (by decide +kernel) (by decide +kernel)
set_option maxRecDepth 20000 in
theorem gL_law_X10_add : GoodIn wsL_law (wsV RL 126 RX10 yX10_add wsX10_add) := goodIn_app (goodIn_of _ (by decide +kernel)) ggL_law_X10_add
set_option maxRecDepth 20000 in
theorem ggL_law_X9_multiply : GoodIn wsL_law wsX9_multiply := goodIn_r _ [756, 165, 166, 300, 19, 167, 168, 169, 2, 170, 13, 609, 610, 611, 612, 15, 175, 176, 177, 757, 18, 758, 759, 717, 31, 644, 26, 645, 646, 616, 37, 718, 719, 720, 721, 204, 722, 723, 724, 33, 725, 726, 727, 728, 474, 47, 475, 476, 97, 98, 99, 100, 77, 66, 83, 93, 94, 95, 96, 613, 614, 615, 421, 422, 423, 72, 424, 319, 320, 321, 71, 729, 730, 731, 732, 733, 734, 735, 868, 869, 870, 871, 872, 861, 862, 863, 864, 865, 866, 867, 828, 829, 830, 831, 832, 859, 860, 854, 855, 856] (by decide +kernel) (by decide +kernel)
set_option maxRecDepth 20000 in
theorem gL_law_X9_multiply : GoodIn wsL_law (wsV RL 127 RX9 yX9_multiply wsX9_multiply) := goodIn_app (goodIn_of _ (by decide +kernel)) ggL_law_X9_multiply
set_option maxRecDepth 20000 in
theorem ggL_law_X10_multiply : GoodIn wsL_law wsX10_multiply := goodIn_r _ [763, 188, 189, 355, 149, 740, 151, 150, 190, 191, 5, 192, 193, 194, 195, 621, 622, 623, 286, 287, 288, 289, 139, 158, 159, 160, 260, 261, 262, 263, 141, 142, 264, 265, 266, 267, 741, 742, 743, 744, 216, 152, 268, 269, 270, 271, 745, 746, 747, 748, 140, 749, 750, 751, 752, 833, 834, 835, 836, 837, 838, 839, 840, 841, 842, 843, 844, 845, 846, 847, 848, 849, 850, 851, 852, 853] (by decide +kernel) (by decide +kernel)
set_option maxRecDepth 20000 in
theorem gL_law_X10_multiply : GoodIn wsL_law (wsV RL 130 RX10 yX10_multiply wsX10_multiply) := goodIn_app (goodIn_of _ (by decide +kernel)) ggL_law_X10_multiply
set_option maxRecDepth 20000 in
theorem ggL_law_X9_convert : GoodIn wsL_law wsX9_convert := goodIn_r _ [767, 165, 300, 23, 768, 769, 203, 167, 168, 169, 2, 170, 13, 609, 610, 611, 612, 15, 656, 22, 657, 658, 659, 41, 644, 26, 645, 646, 616, 37, 179, 180, 181, 182, 75, 183, 698, 699, 700, 204, 302, 52, 303, 304, 305, 104, 105, 106, 306, 307, 308, 309, 107, 90, 47, 91, 92, 77, 93, 94, 95, 96, 310, 311, 312, 313, 314, 315, 316, 317, 318, 98, 99, 100, 66, 83, 319, 320, 321, 71, 322, 323, 324, 325, 326, 327, 328, 329, 330, 331, 341, 342, 343, 338, 339, 340, 613, 614, 615, 868, 869, 870, 871, 872, 861, 862, 863, 864, 865, 866, 867, 828, 829, 830, 831, 832, 857, 858, 859, 860, 873, 874, 875, 876, 877, 878, 879] (by decide +kernel) (by decide +kernel)
set_option maxRecDepth 20000 in
theorem gL_law_X9_convert : GoodIn wsL_law (wsV RL 131 RX9 yX9_convert wsX9_convert) := goodIn_app (goodIn_of _ (by decide +kernel)) ggL_law_X9_convert
set_option maxRecDepth 20000 in
theorem ggL_law_X10_convert : GoodIn wsL_law wsX10_convert := goodIn_r _ [773, 188, 355, 664, 665, 774, 775, 215, 190, 191, 5, 192, 193, 194, 195, 621, 622, 623, 286, 287, 288, 289, 139, 158, 159, 160, 260, 261, 262, 263, 141, 142, 264, 265, 266, 267, 670, 671, 672, 673, 149, 150, 140, 196, 197, 198, 705, 706, 707, 708, 216, 406, 407, 408, 409, 360, 361, 268, 269, 270, 271, 362, 363, 364, 365, 366, 367, 368, 369, 370, 371, 372, 373, 833, 834, 835, 836, 837, 838, 839, 840, 841, 842, 843, 844, 845, 846, 847, 848, 849, 850, 851, 852, 853] (by decide +kernel) (by decide +kernel)
set_option maxRecDepth 20000 in
theorem gL_law_X10_convert : GoodIn wsL_law (wsV RL 134 RX10 yX10_convert wsX10_convert) := goodIn_app (goodIn_of _ (by decide +kernel)) ggL_law_X10_convert
set_option maxRecDepth 20000 in
theorem ggL_law_X9_nextCarry : GoodIn wsL_law wsX9_nextCarry := goodIn_r _ [779, 165, 166, 300, 167, 168, 169, 2, 170, 13, 175, 176, 177, 421, 47, 422, 423, 72, 97, 98, 99, 100, 77, 66, 83, 93, 94, 95, 96, 424, 319, 320, 321, 71, 868, 869, 870, 871, 872, 861, 862, 863, 864, 865, 866, 867, 828, 829, 830, 831, 832] (by decide +kernel) (by decide +kernel)
set_option maxRecDepth 20000 in
theorem gL_law_X9_nextCarry : GoodIn wsL_law (wsV RL 135 RX9 yX9_nextCarry wsX9_nextCarry) := goodIn_app (goodIn_of _ (by decide +kernel)) ggL_law_X9_nextCarry
set_option maxRecDepth 20000 in
theorem ggL_law_X10_nextCarry : GoodIn wsL_law wsX10_nextCarry := goodIn_r _ [783, 188, 189, 355, 190, 191, 5, 192, 193, 194, 195, 286, 287, 288, 289, 139, 158, 159, 160, 260, 261, 262, 263, 141, 142, 264, 265, 266, 267, 749, 750, 751, 752, 140, 745, 746, 747, 748, 268, 269, 270, 271, 833, 834, 835, 836, 837, 838, 839, 840, 841, 842, 843, 844, 845, 846, 847, 848, 849, 850, 851, 852, 853] (by decide +kernel) (by decide +kernel)
set_option maxRecDepth 20000 in
theorem gL_law_X10_nextCarry : GoodIn wsL_law (wsV RL 138 RX10 yX10_nextCarry wsX10_nextCarry) := goodIn_app (goodIn_of _ (by decide +kernel)) ggL_law_X10_nextCarry
set_option maxRecDepth 20000 in
theorem ggL_law_X9_carryCount : GoodIn wsL_law wsX9_carryCount := goodIn_r _ [787, 165, 300, 167, 168, 169, 2, 170, 13, 788, 61, 789, 790, 791, 125, 123, 126, 792, 793, 794, 795, 796, 797, 798, 799, 86, 47, 87, 88, 65, 421, 422, 423, 72, 97, 98, 99, 100, 77, 66, 83, 93, 94, 95, 96, 424, 319, 320, 321, 71, 800, 801, 802, 803, 868, 869, 870, 871, 872, 861, 862, 863, 864, 865, 866, 867, 888, 889, 890, 891, 828, 829, 830, 831, 832] (by decide +kernel) (by decide +kernel)
set_option maxRecDepth 20000 in
theorem gL_law_X9_carryCount : GoodIn wsL_law (wsV RL 139 RX9 yX9_carryCount wsX9_carryCount) := goodIn_app (goodIn_of _ (by decide +kernel)) ggL_law_X9_carryCount
set_option maxRecDepth 20000 in
theorem ggL_law_X10_carryCount : GoodIn wsL_law wsX10_carryCount := goodIn_r _ [807, 153, 430, 431, 432, 5, 433, 188, 355, 190, 191, 192, 193, 194, 195, 286, 287, 288, 289, 139, 158, 159, 160, 260, 261, 262, 263, 141, 142, 264, 265, 266, 267, 808, 809, 810, 811, 812, 813, 814, 815, 749, 750, 751, 752, 140, 745, 746, 747, 748, 268, 269, 270, 271, 833, 834, 835, 836, 837, 838, 839, 840, 841, 842, 843, 844, 845, 846, 847, 848, 849, 850, 851, 852, 853] (by decide +kernel) (by decide +kernel)
set_option maxRecDepth 20000 in
theorem gL_law_X10_carryCount : GoodIn wsL_law (wsV RL 142 RX10 yX10_carryCount wsX10_carryCount) := goodIn_app (goodIn_of _ (by decide +kernel)) ggL_law_X10_carryCount
set_option maxRecDepth 20000 in
theorem ggL_law_X9_carry : GoodIn wsL_law wsX9_carry := goodIn_r _ [819, 165, 166, 300, 167, 168, 169, 2, 170, 13, 788, 61, 789, 790, 791, 125, 123, 126, 792, 793, 794, 795, 796, 797, 798, 799, 86, 47, 87, 88, 65, 421, 422, 423, 72, 97, 98, 99, 100, 77, 66, 83, 93, 94, 95, 96, 424, 319, 320, 321, 71, 800, 801, 802, 803, 820, 821, 822, 823, 868, 869, 870, 871, 872, 861, 862, 863, 864, 865, 866, 867, 828, 829, 830, 831, 832, 888, 889, 890, 891] (by decide +kernel) (by decide +kernel)
set_option maxRecDepth 20000 in
theorem gL_law_X9_carry : GoodIn wsL_law (wsV RL 143 RX9 yX9_carry wsX9_carry) := goodIn_app (goodIn_of _ (by decide +kernel)) ggL_law_X9_carry
set_option maxRecDepth 20000 in
theorem ggL_law_X10_carry : GoodIn wsL_law wsX10_carry := goodIn_r _ [827, 188, 189, 355, 153, 259, 190, 191, 5, 192, 193, 194, 195, 286, 287, 288, 289, 139, 158, 159, 160, 260, 261, 262, 263, 141, 142, 264, 265, 266, 267, 808, 809, 810, 811, 812, 813, 814, 815, 749, 750, 751, 752, 140, 745, 746, 747, 748, 268, 269, 270, 271, 833, 834, 835, 836, 837, 838, 839, 840, 841, 842, 843, 844, 845, 846, 847, 848, 849, 850, 851, 852, 853] (by decide +kernel) (by decide +kernel)
set_option maxRecDepth 20000 in
theorem gL_law_X10_carry : GoodIn wsL_law (wsV RL 146 RX10 yX10_carry wsX10_carry) := goodIn_app (goodIn_of _ (by decide +kernel)) ggL_law_X10_carry
