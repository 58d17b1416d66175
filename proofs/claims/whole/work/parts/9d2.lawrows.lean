set_option maxRecDepth 20000 in
theorem ggL_law_X10_system : GoodIn wsL_law wsX10_system := goodIn_r _ [285, 188, 141, 142, 139, 140, 189, 190, 191, 5, 192, 193, 194, 195, 158, 159, 160, 286, 287, 288, 289, 260, 261, 262, 263, 264, 265, 266, 267, 833, 834, 835, 836, 837, 838, 839, 840, 841, 842, 843, 844, 845, 846, 847, 848, 849, 850, 851, 852, 853] (by decide +kernel) (by decide +kernel)
set_option maxRecDepth 20000 in
theorem gL_law_X10_system : GoodIn wsL_law (wsV RL 42 RX10 yX10_system wsX10_system) := goodIn_app (goodIn_of _ (by decide +kernel)) ggL_law_X10_system
set_option maxRecDepth 20000 in
theorem ggL_law_X9_digit : GoodIn wsL_law wsX9_digit := goodIn_r _ [293, 294, 295, 296, 2, 297, 165, 298, 299, 166, 300, 203, 301, 167, 168, 169, 170, 13, 175, 176, 177, 178, 179, 180, 181, 182, 75, 183, 302, 52, 303, 304, 305, 104, 105, 106, 306, 307, 308, 309, 107, 90, 47, 91, 92, 77, 93, 94, 95, 96, 310, 311, 312, 313, 314, 315, 316, 317, 318, 98, 99, 100, 66, 83, 319, 320, 321, 71, 322, 323, 324, 325, 326, 327, 328, 329, 330, 331, 332, 333, 334, 335, 336, 337, 338, 339, 340, 341, 342, 343, 868, 869, 870, 871, 872, 861, 862, 863, 864, 865, 866, 867, 873, 874, 875, 876, 877, 878, 879, 828, 829, 830, 831, 832] (by decide +kernel) (by decide +kernel)
set_option maxRecDepth 20000 in
theorem gL_law_X9_digit : GoodIn wsL_law (wsV RL 43 RX9 yX9_digit wsX9_digit) := goodIn_app (goodIn_of _ (by decide +kernel)) ggL_law_X9_digit
set_option maxRecDepth 20000 in
theorem ggL_law_X10_digit : GoodIn wsL_law wsX10_digit := goodIn_r _ [347, 348, 349, 350, 5, 351, 188, 352, 353, 354, 189, 355, 139, 215, 190, 191, 192, 193, 194, 195, 286, 287, 288, 289, 158, 159, 160, 260, 261, 262, 263, 141, 142, 264, 265, 266, 267, 196, 197, 198, 356, 357, 358, 359, 360, 361, 362, 363, 364, 365, 366, 367, 368, 369, 140, 370, 371, 372, 373, 833, 834, 835, 836, 837, 838, 839, 840, 841, 842, 843, 844, 845, 846, 847, 848, 849, 850, 851, 852, 853] (by decide +kernel) (by decide +kernel)
set_option maxRecDepth 20000 in
theorem gL_law_X10_digit : GoodIn wsL_law (wsV RL 47 RX10 yX10_digit wsX10_digit) := goodIn_app (goodIn_of _ (by decide +kernel)) ggL_law_X10_digit
set_option maxRecDepth 20000 in
theorem ggL_law_X9_numerator : GoodIn wsL_law wsX9_numerator := goodIn_r _ [377, 294, 295, 296, 2, 297, 165, 298, 299, 166, 300, 203, 301, 167, 168, 169, 170, 13, 175, 176, 177, 178, 179, 180, 181, 182, 75, 183, 302, 52, 303, 304, 305, 104, 105, 106, 306, 307, 308, 309, 107, 90, 47, 91, 92, 77, 93, 94, 95, 96, 310, 311, 312, 313, 314, 315, 316, 317, 318, 98, 99, 100, 66, 83, 319, 320, 321, 71, 322, 323, 324, 325, 326, 327, 328, 329, 330, 331, 332, 333, 334, 335, 336, 337, 338, 339, 340, 341, 342, 343, 868, 869, 870, 871, 872, 861, 862, 863, 864, 865, 866, 867, 873, 874, 875, 876, 877, 878, 879, 828, 829, 830, 831, 832] (by decide +kernel) (by decide +kernel)
set_option maxRecDepth 20000 in
theorem gL_law_X9_numerator : GoodIn wsL_law (wsV RL 48 RX9 yX9_numerator wsX9_numerator) := goodIn_app (goodIn_of _ (by decide +kernel)) ggL_law_X9_numerator
set_option maxRecDepth 20000 in
theorem ggL_law_X10_numerator : GoodIn wsL_law wsX10_numerator := goodIn_r _ [381, 348, 349, 350, 5, 351, 188, 352, 353, 354, 189, 355, 139, 215, 190, 191, 192, 193, 194, 195, 286, 287, 288, 289, 158, 159, 160, 260, 261, 262, 263, 141, 142, 264, 265, 266, 267, 196, 197, 198, 356, 357, 358, 359, 360, 361, 362, 363, 364, 365, 366, 367, 368, 369, 140, 370, 371, 372, 373, 833, 834, 835, 836, 837, 838, 839, 840, 841, 842, 843, 844, 845, 846, 847, 848, 849, 850, 851, 852, 853] (by decide +kernel) (by decide +kernel)
set_option maxRecDepth 20000 in
theorem gL_law_X10_numerator : GoodIn wsL_law (wsV RL 51 RX10 yX10_numerator wsX10_numerator) := goodIn_app (goodIn_of _ (by decide +kernel)) ggL_law_X10_numerator
set_option maxRecDepth 20000 in
theorem ggL_law_X9_preperiod : GoodIn wsL_law wsX9_preperiod := goodIn_r _ [385, 294, 295, 296, 2, 297, 165, 298, 299, 166, 300, 203, 301, 167, 168, 169, 170, 13, 175, 176, 177, 178, 179, 180, 181, 182, 75, 183, 302, 52, 303, 304, 305, 104, 105, 106, 306, 307, 308, 309, 107, 90, 47, 91, 92, 77, 93, 94, 95, 96, 310, 311, 312, 313, 314, 315, 316, 317, 318, 98, 99, 100, 66, 83, 319, 320, 321, 71, 322, 323, 324, 325, 326, 327, 328, 329, 330, 331, 332, 333, 334, 335, 336, 337, 338, 339, 340, 341, 342, 343, 868, 869, 870, 871, 872, 861, 862, 863, 864, 865, 866, 867, 873, 874, 875, 876, 877, 878, 879, 828, 829, 830, 831, 832] (by decide +kernel) (by decide +kernel)
set_option maxRecDepth 20000 in
theorem gL_law_X9_preperiod : GoodIn wsL_law (wsV RL 52 RX9 yX9_preperiod wsX9_preperiod) := goodIn_app (goodIn_of _ (by decide +kernel)) ggL_law_X9_preperiod
set_option maxRecDepth 20000 in
theorem ggL_law_X10_preperiod : GoodIn wsL_law wsX10_preperiod := goodIn_r _ [389, 360, 348, 349, 350, 5, 351, 188, 352, 353, 354, 189, 355, 139, 215, 190, 191, 192, 193, 194, 195, 286, 287, 288, 289, 158, 159, 160, 260, 261, 262, 263, 141, 142, 264, 265, 266, 267, 196, 197, 198, 362, 363, 364, 365, 361, 366, 367, 368, 369, 140, 370, 371, 372, 373, 833, 834, 835, 836, 837, 838, 839, 840, 841, 842, 843, 844, 845, 846, 847, 848, 849, 850, 851, 852, 853] (by decide +kernel) (by decide +kernel)
set_option maxRecDepth 20000 in
theorem gL_law_X10_preperiod : GoodIn wsL_law (wsV RL 55 RX10 yX10_preperiod wsX10_preperiod) := goodIn_app (goodIn_of _ (by decide +kernel)) ggL_law_X10_preperiod
set_option maxRecDepth 20000 in
theorem ggL_law_X9_period : GoodIn wsL_law wsX9_period := goodIn_r _ [393, 294, 295, 296, 2, 297, 165, 298, 299, 166, 300, 203, 301, 167, 168, 169, 170, 13, 175, 176, 177, 178, 179, 180, 181, 182, 75, 183, 302, 52, 303, 304, 305, 104, 105, 106, 306, 307, 308, 309, 107, 90, 47, 91, 92, 77, 93, 94, 95, 96, 310, 311, 312, 313, 314, 315, 316, 317, 318, 98, 99, 100, 66, 83, 319, 320, 321, 71, 322, 323, 324, 325, 326, 327, 328, 329, 330, 331, 332, 333, 334, 335, 336, 337, 338, 339, 340, 341, 342, 343, 868, 869, 870, 871, 872, 861, 862, 863, 864, 865, 866, 867, 873, 874, 875, 876, 877, 878, 879, 828, 829, 830, 831, 832] (by decide +kernel) (by decide +kernel)
set_option maxRecDepth 20000 in
theorem gL_law_X9_period : GoodIn wsL_law (wsV RL 56 RX9 yX9_period wsX9_period) := goodIn_app (goodIn_of _ (by decide +kernel)) ggL_law_X9_period
set_option maxRecDepth 20000 in
theorem ggL_law_X10_period : GoodIn wsL_law wsX10_period := goodIn_r _ [397, 361, 348, 349, 350, 5, 351, 188, 352, 353, 354, 189, 355, 139, 215, 190, 191, 192, 193, 194, 195, 286, 287, 288, 289, 158, 159, 160, 260, 261, 262, 263, 141, 142, 264, 265, 266, 267, 196, 197, 198, 362, 363, 364, 365, 360, 366, 367, 368, 369, 140, 370, 371, 372, 373, 833, 834, 835, 836, 837, 838, 839, 840, 841, 842, 843, 844, 845, 846, 847, 848, 849, 850, 851, 852, 853] (by decide +kernel) (by decide +kernel)
set_option maxRecDepth 20000 in
theorem gL_law_X10_period : GoodIn wsL_law (wsV RL 59 RX10 yX10_period wsX10_period) := goodIn_app (goodIn_of _ (by decide +kernel)) ggL_law_X10_period
set_option maxRecDepth 20000 in
theorem ggL_law_X9_length : GoodIn wsL_law wsX9_length := goodIn_r _ [401, 294, 295, 296, 2, 297, 165, 298, 299, 166, 300, 203, 301, 167, 168, 169, 170, 13, 175, 176, 177, 178, 179, 180, 181, 182, 75, 183, 302, 52, 303, 304, 305, 104, 105, 106, 306, 307, 308, 309, 107, 90, 47, 91, 92, 77, 93, 94, 95, 96, 310, 311, 312, 313, 314, 315, 316, 317, 318, 98, 99, 100, 66, 83, 319, 320, 321, 71, 322, 323, 324, 325, 326, 327, 328, 329, 330, 331, 332, 333, 334, 335, 336, 337, 338, 339, 340, 341, 342, 343, 868, 869, 870, 871, 872, 861, 862, 863, 864, 865, 866, 867, 873, 874, 875, 876, 877, 878, 879, 828, 829, 830, 831, 832] (by decide +kernel) (by decide +kernel)
set_option maxRecDepth 20000 in
theorem gL_law_X9_length : GoodIn wsL_law (wsV RL 60 RX9 yX9_length wsX9_length) := goodIn_app (goodIn_of _ (by decide +kernel)) ggL_law_X9_length
set_option maxRecDepth 20000 in
theorem ggL_law_X10_length : GoodIn wsL_law wsX10_length := goodIn_r _ [405, 259, 348, 349, 350, 5, 351, 188, 352, 353, 354, 189, 355, 139, 215, 190, 191, 192, 193, 194, 195, 286, 287, 288, 289, 158, 159, 160, 260, 261, 262, 263, 141, 142, 264, 265, 266, 267, 196, 197, 198, 406, 407, 408, 409, 360, 361, 268, 269, 270, 271, 362, 363, 364, 365, 366, 367, 368, 369, 140, 370, 371, 372, 373, 833, 834, 835, 836, 837, 838, 839, 840, 841, 842, 843, 844, 845, 846, 847, 848, 849, 850, 851, 852, 853] (by decide +kernel) (by decide +kernel)
set_option maxRecDepth 20000 in
theorem gL_law_X10_length : GoodIn wsL_law (wsV RL 63 RX10 yX10_length wsX10_length) := goodIn_app (goodIn_of _ (by decide +kernel)) ggL_law_X10_length
set_option maxRecDepth 20000 in
theorem ggL_law_X9_cycleCount : GoodIn wsL_law wsX9_cycleCount := goodIn_r _ [413, 165, 300, 167, 168, 169, 2, 170, 13, 414, 55, 415, 416, 417, 418, 419, 420, 111, 421, 47, 422, 423, 72, 97, 98, 99, 100, 77, 66, 83, 93, 94, 95, 96, 424, 319, 320, 321, 71, 868, 869, 870, 871, 872, 861, 862, 863, 864, 865, 866, 867, 828, 829, 830, 831, 832, 880] (by decide +kernel) (by decide +kernel)
set_option maxRecDepth 20000 in
theorem gL_law_X9_cycleCount : GoodIn wsL_law (wsV RL 64 RX9 yX9_cycleCount wsX9_cycleCount) := goodIn_app (goodIn_of _ (by decide +kernel)) ggL_law_X9_cycleCount
set_option maxRecDepth 20000 in
theorem ggL_law_X10_cycleCount : GoodIn wsL_law wsX10_cycleCount := goodIn_r _ [428, 429, 430, 431, 432, 5, 433, 188, 355, 190, 191, 192, 193, 194, 195, 286, 287, 288, 289, 139, 158, 159, 160, 260, 261, 262, 263, 141, 142, 264, 265, 266, 267, 434, 435, 436, 437, 361, 360, 143, 144, 145, 362, 363, 364, 365, 366, 367, 368, 369, 140, 370, 371, 372, 373, 833, 834, 835, 836, 837, 838, 839, 840, 841, 842, 843, 844, 845, 846, 847, 848, 849, 850, 851, 852, 853] (by decide +kernel) (by decide +kernel)
set_option maxRecDepth 20000 in
theorem gL_law_X10_cycleCount : GoodIn wsL_law (wsV RL 68 RX10 yX10_cycleCount wsX10_cycleCount) := goodIn_app (goodIn_of _ (by decide +kernel)) ggL_law_X10_cycleCount
