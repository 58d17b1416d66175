set_option maxRecDepth 20000 in
theorem ggL_law_X9_cycle : GoodIn wsL_law wsX9_cycle := goodIn_r _ [441, 165, 166, 300, 301, 167, 168, 169, 2, 170, 13, 414, 55, 415, 416, 417, 418, 419, 420, 111, 421, 47, 422, 423, 72, 97, 98, 99, 100, 77, 66, 83, 93, 94, 95, 96, 424, 319, 320, 321, 71, 442, 443, 444, 445, 446, 447, 448, 449, 450, 451, 452, 280, 75, 281, 868, 869, 870, 871, 872, 861, 862, 863, 864, 865, 866, 867, 828, 829, 830, 831, 832, 880] (by decide +kernel) (by decide +kernel)
set_option maxRecDepth 20000 in
theorem gL_law_X9_cycle : GoodIn wsL_law (wsV RL 69 RX9 yX9_cycle wsX9_cycle) := goodIn_app (goodIn_of _ (by decide +kernel)) ggL_law_X9_cycle
set_option maxRecDepth 20000 in
theorem ggL_law_X10_cycle : GoodIn wsL_law wsX10_cycle := goodIn_r _ [456, 188, 189, 355, 429, 259, 143, 145, 144, 190, 191, 5, 192, 193, 194, 195, 286, 287, 288, 289, 139, 158, 159, 160, 260, 261, 262, 263, 141, 142, 264, 265, 266, 267, 434, 435, 436, 437, 361, 360, 362, 363, 364, 365, 366, 367, 368, 369, 140, 370, 371, 372, 373, 833, 834, 835, 836, 837, 838, 839, 840, 841, 842, 843, 844, 845, 846, 847, 848, 849, 850, 851, 852, 853] (by decide +kernel) (by decide +kernel)
set_option maxRecDepth 20000 in
theorem gL_law_X10_cycle : GoodIn wsL_law (wsV RL 72 RX10 yX10_cycle wsX10_cycle) := goodIn_app (goodIn_of _ (by decide +kernel)) ggL_law_X10_cycle
set_option maxRecDepth 20000 in
theorem ggL_law_X9_leadsTo : GoodIn wsL_law wsX9_leadsTo := goodIn_r _ [460, 165, 298, 166, 300, 167, 168, 169, 2, 170, 13, 175, 176, 177, 302, 52, 303, 304, 305, 104, 105, 106, 306, 307, 308, 309, 107, 90, 47, 91, 92, 77, 93, 94, 95, 96, 310, 311, 312, 313, 314, 315, 316, 317, 318, 98, 99, 100, 66, 83, 319, 320, 321, 71, 322, 323, 324, 325, 326, 327, 328, 329, 330, 331, 461, 55, 462, 463, 111, 464, 336, 75, 337, 421, 422, 423, 72, 97, 424, 465, 414, 415, 416, 417, 418, 419, 420, 868, 869, 870, 871, 872, 861, 862, 863, 864, 865, 866, 867, 873, 874, 875, 876, 877, 878, 879, 828, 829, 830, 831, 832, 880] (by decide +kernel) (by decide +kernel)
set_option maxRecDepth 20000 in
theorem gL_law_X9_leadsTo : GoodIn wsL_law (wsV RL 73 RX9 yX9_leadsTo wsX9_leadsTo) := goodIn_app (goodIn_of _ (by decide +kernel)) ggL_law_X9_leadsTo
set_option maxRecDepth 20000 in
theorem ggL_law_X10_leadsTo : GoodIn wsL_law wsX10_leadsTo := goodIn_r _ [469, 188, 352, 353, 189, 355, 360, 361, 143, 190, 191, 5, 192, 193, 194, 195, 286, 287, 288, 289, 139, 158, 159, 160, 260, 261, 262, 263, 141, 142, 264, 265, 266, 267, 362, 363, 364, 365, 366, 367, 368, 369, 140, 370, 371, 372, 373, 356, 357, 358, 359, 434, 435, 436, 437, 429, 144, 145, 833, 834, 835, 836, 837, 838, 839, 840, 841, 842, 843, 844, 845, 846, 847, 848, 849, 850, 851, 852, 853] (by decide +kernel) (by decide +kernel)
set_option maxRecDepth 20000 in
theorem gL_law_X10_leadsTo : GoodIn wsL_law (wsV RL 76 RX10 yX10_leadsTo wsX10_leadsTo) := goodIn_app (goodIn_of _ (by decide +kernel)) ggL_law_X10_leadsTo
set_option maxRecDepth 20000 in
theorem ggL_law_X9_reachesAll : GoodIn wsL_law wsX9_reachesAll := goodIn_r _ [473, 165, 300, 167, 168, 169, 2, 170, 13, 474, 47, 475, 476, 97, 98, 99, 100, 77, 66, 83, 93, 94, 95, 96, 414, 55, 415, 416, 417, 418, 419, 420, 111, 421, 422, 423, 72, 424, 319, 320, 321, 71, 868, 869, 870, 871, 872, 861, 862, 863, 864, 865, 866, 867, 828, 829, 830, 831, 832, 880] (by decide +kernel) (by decide +kernel)
set_option maxRecDepth 20000 in
theorem gL_law_X9_reachesAll : GoodIn wsL_law (wsV RL 77 RX9 yX9_reachesAll wsX9_reachesAll) := goodIn_app (goodIn_of _ (by decide +kernel)) ggL_law_X9_reachesAll
set_option maxRecDepth 20000 in
theorem ggL_law_X10_reachesAll : GoodIn wsL_law wsX10_reachesAll := goodIn_r _ [480, 429, 143, 144, 430, 431, 432, 5, 433, 188, 355, 190, 191, 192, 193, 194, 195, 286, 287, 288, 289, 139, 158, 159, 160, 260, 261, 262, 263, 141, 142, 264, 265, 266, 267, 434, 435, 436, 437, 361, 360, 145, 362, 363, 364, 365, 366, 367, 368, 369, 140, 370, 371, 372, 373, 833, 834, 835, 836, 837, 838, 839, 840, 841, 842, 843, 844, 845, 846, 847, 848, 849, 850, 851, 852, 853] (by decide +kernel) (by decide +kernel)
set_option maxRecDepth 20000 in
theorem gL_law_X10_reachesAll : GoodIn wsL_law (wsV RL 80 RX10 yX10_reachesAll wsX10_reachesAll) := goodIn_app (goodIn_of _ (by decide +kernel)) ggL_law_X10_reachesAll
set_option maxRecDepth 20000 in
theorem ggL_law_X9_expansions : GoodIn wsL_law wsX9_expansions := goodIn_r _ [484, 165, 298, 166, 485, 486, 167, 168, 169, 2, 170, 13, 175, 176, 177, 487, 58, 488, 489, 490, 491, 492, 493, 494, 119, 115, 116, 495, 336, 75, 337, 496, 47, 497, 498, 78, 499, 85, 86, 87, 88, 65, 500, 501, 502, 279, 280, 281, 503, 504, 505, 506, 507, 508, 95, 509, 510, 511, 512, 513, 514, 515, 516, 517, 518, 519, 520, 521, 522, 523, 524, 525, 526, 527, 528, 529, 530, 531, 532, 71, 319, 320, 321, 533, 534, 535, 536, 118, 537, 538, 539, 540, 541, 542, 543, 544, 868, 869, 870, 871, 872, 828, 829, 830, 831, 832, 881, 882, 883, 884, 885, 886, 887, 861, 862, 863, 864, 865, 866, 867] (by decide +kernel) (by decide +kernel)
set_option maxRecDepth 20000 in
theorem gL_law_X9_expansions : GoodIn wsL_law (wsV RL 81 RX9 yX9_expansions wsX9_expansions) := goodIn_app (goodIn_of _ (by decide +kernel)) ggL_law_X9_expansions
set_option maxRecDepth 20000 in
theorem ggL_law_X10_expansions : GoodIn wsL_law wsX10_expansions := goodIn_r _ [548, 188, 352, 353, 189, 148, 190, 191, 5, 192, 193, 194, 195, 549, 550, 551, 552, 146, 147, 141, 553, 554, 555, 556, 557, 140, 142, 139, 558, 559, 560, 561, 562, 563, 564, 565, 833, 834, 835, 836, 837, 838, 839, 840, 841, 842, 843, 844, 845, 846, 847, 848, 849, 850, 851, 852, 853] (by decide +kernel) (by decide +kernel)
set_option maxRecDepth 20000 in
theorem gL_law_X10_expansions : GoodIn wsL_law (wsV RL 84 RX10 yX10_expansions wsX10_expansions) := goodIn_app (goodIn_of _ (by decide +kernel)) ggL_law_X10_expansions
set_option maxRecDepth 20000 in
theorem ggL_law_X9_expansionDigit : GoodIn wsL_law wsX9_expansionDigit := goodIn_r _ [569, 165, 298, 570, 166, 301, 167, 168, 169, 2, 170, 13, 175, 176, 177, 487, 58, 488, 489, 490, 491, 492, 493, 494, 119, 115, 116, 495, 336, 75, 337, 496, 47, 497, 498, 78, 499, 85, 86, 87, 88, 65, 500, 501, 502, 279, 280, 281, 503, 504, 505, 506, 507, 508, 95, 509, 510, 511, 512, 513, 514, 515, 516, 517, 518, 519, 520, 521, 522, 523, 524, 525, 526, 527, 528, 529, 530, 531, 532, 71, 319, 320, 321, 533, 534, 535, 536, 118, 537, 538, 539, 540, 541, 542, 543, 544, 571, 572, 573, 574, 575, 576, 577, 578, 579, 580, 868, 869, 870, 871, 872, 828, 829, 830, 831, 832, 881, 882, 883, 884, 885, 886, 887, 861, 862, 863, 864, 865, 866, 867] (by decide +kernel) (by decide +kernel)
set_option maxRecDepth 20000 in
theorem gL_law_X9_expansionDigit : GoodIn wsL_law (wsV RL 85 RX9 yX9_expansionDigit wsX9_expansionDigit) := goodIn_app (goodIn_of _ (by decide +kernel)) ggL_law_X9_expansionDigit
set_option maxRecDepth 20000 in
theorem ggL_law_X10_expansionDigit : GoodIn wsL_law wsX10_expansionDigit := goodIn_r _ [584, 188, 352, 353, 585, 189, 148, 259, 142, 190, 191, 5, 192, 193, 194, 195, 549, 550, 551, 552, 146, 147, 141, 553, 554, 555, 556, 557, 140, 139, 558, 559, 560, 561, 562, 563, 564, 565, 833, 834, 835, 836, 837, 838, 839, 840, 841, 842, 843, 844, 845, 846, 847, 848, 849, 850, 851, 852, 853] (by decide +kernel) (by decide +kernel)
set_option maxRecDepth 20000 in
theorem gL_law_X10_expansionDigit : GoodIn wsL_law (wsV RL 89 RX10 yX10_expansionDigit wsX10_expansionDigit) := goodIn_app (goodIn_of _ (by decide +kernel)) ggL_law_X10_expansionDigit
set_option maxRecDepth 20000 in
theorem ggL_law_X9_shortest : GoodIn wsL_law wsX9_shortest := goodIn_r _ [589, 165, 298, 166, 167, 168, 169, 2, 170, 13, 175, 176, 177, 590, 58, 591, 592, 576, 491, 492, 493, 494, 119, 115, 116, 495, 336, 75, 337, 496, 47, 497, 498, 78, 499, 85, 86, 87, 88, 65, 500, 501, 502, 279, 280, 281, 503, 504, 505, 506, 507, 508, 95, 509, 510, 511, 512, 513, 541, 542, 543, 544, 118, 537, 538, 539, 540, 518, 519, 520, 521, 514, 515, 516, 517, 533, 534, 535, 536, 593, 594, 595, 596, 597, 598, 599, 600, 530, 531, 532, 71, 319, 320, 321, 868, 869, 870, 871, 872, 828, 829, 830, 831, 832, 881, 882, 883, 884, 885, 886, 887, 861, 862, 863, 864, 865, 866, 867] (by decide +kernel) (by decide +kernel)
set_option maxRecDepth 20000 in
theorem gL_law_X9_shortest : GoodIn wsL_law (wsV RL 90 RX9 yX9_shortest wsX9_shortest) := goodIn_app (goodIn_of _ (by decide +kernel)) ggL_law_X9_shortest
set_option maxRecDepth 20000 in
theorem ggL_law_X10_shortest : GoodIn wsL_law wsX10_shortest := goodIn_r _ [604, 188, 352, 353, 189, 148, 259, 190, 191, 5, 192, 193, 194, 195, 549, 550, 551, 552, 146, 147, 141, 553, 554, 555, 556, 557, 140, 142, 139, 558, 559, 560, 561, 562, 563, 564, 565, 833, 834, 835, 836, 837, 838, 839, 840, 841, 842, 843, 844, 845, 846, 847, 848, 849, 850, 851, 852, 853] (by decide +kernel) (by decide +kernel)
set_option maxRecDepth 20000 in
theorem gL_law_X10_shortest : GoodIn wsL_law (wsV RL 93 RX10 yX10_shortest wsX10_shortest) := goodIn_app (goodIn_of _ (by decide +kernel)) ggL_law_X10_shortest
set_option maxRecDepth 20000 in
theorem ggL_law_X9_push : GoodIn wsL_law wsX9_push := goodIn_r _ [608, 165, 166, 204, 609, 610, 611, 2, 612, 15, 175, 176, 177, 613, 26, 614, 615, 616, 37, 859, 860, 828, 829, 830, 831, 832] (by decide +kernel) (by decide +kernel)
set_option maxRecDepth 20000 in
theorem gL_law_X9_push : GoodIn wsL_law (wsV RL 94 RX9 yX9_push wsX9_push) := goodIn_app (goodIn_of _ (by decide +kernel)) ggL_law_X9_push
