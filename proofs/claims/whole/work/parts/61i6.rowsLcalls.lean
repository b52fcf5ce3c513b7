set_option maxRecDepth 20000 in
theorem ggL_law_X4_cornsWanted : GoodIn wsL_law wsX4_cornsWanted := goodIn_r _ [737, 93, 224, 225, 226, 5, 227, 95, 96, 97, 98, 99, 100, 101, 102, 703, 704, 705, 706, 53, 54, 707, 678, 679, 680, 163, 164, 165, 166, 708, 709, 710, 711, 267, 268, 269, 270, 94, 228, 229, 230, 231, 365, 366, 367, 368, 135, 276, 277, 278, 279, 140, 141, 142, 143, 369, 370, 371, 372, 52, 223, 208, 209, 210, 275, 261, 262, 373, 374, 375, 376, 377, 378, 379, 380, 51, 381, 382, 383, 384, 50, 385, 386, 387, 388, 271, 272, 273, 274, 389, 390, 391, 712, 713, 714, 715, 864, 865, 866, 867, 868, 869, 870, 871, 872] (by decide +kernel) (by decide +kernel)
set_option maxRecDepth 20000 in
theorem gL_law_X4_cornsWanted : GoodIn wsL_law (wsV RL 231 RX4 yX4_cornsWanted wsX4_cornsWanted) := goodIn_app (goodIn_of _ (by decide +kernel)) ggL_law_X4_cornsWanted
set_option maxRecDepth 20000 in
theorem ggL_law_L_bestToBribe : GoodIn wsL_law wsL_bestToBribe := goodIn_ca (goodIn_r _ [740, 110, 741, 742, 743, 2, 744, 16, 115, 66, 239, 211, 212, 213, 214, 215, 216, 217, 29, 218, 158, 121, 122, 123, 124, 125, 745, 341, 342, 25, 343, 130, 35, 331, 332, 333, 334, 34, 36, 862, 863, 873, 874, 875, 876, 877, 878, 879, 885, 886, 887, 888, 889, 890, 880, 881, 882, 883, 884] (by decide +kernel) (by decide +kernel)) (goodIn_sub (fun _ h => List.mem_append_right _ h) (by decide +kernel))
set_option maxRecDepth 20000 in
theorem gL_law_L_bestToBribe : GoodIn wsL_law (va_wsS RL 232 yL_bestToBribe wsL_bestToBribe) := goodIn_app (goodIn_of _ (by decide +kernel)) ggL_law_L_bestToBribe
set_option maxRecDepth 20000 in
theorem ggL_law_X4_bestToBribe : GoodIn wsL_law wsX4_bestToBribe := goodIn_r _ [749, 93, 224, 225, 226, 5, 227, 95, 96, 97, 98, 750, 751, 752, 753, 267, 268, 269, 270, 94, 228, 229, 230, 231, 53, 385, 386, 387, 388, 135, 377, 378, 379, 380, 51, 276, 277, 278, 279, 99, 100, 101, 102, 864, 865, 866, 867, 868, 869, 870, 871, 872] (by decide +kernel) (by decide +kernel)
set_option maxRecDepth 20000 in
theorem gL_law_X4_bestToBribe : GoodIn wsL_law (wsV RL 234 RX4 yX4_bestToBribe wsX4_bestToBribe) := goodIn_app (goodIn_of _ (by decide +kernel)) ggL_law_X4_bestToBribe
set_option maxRecDepth 20000 in
theorem ggL_law_L_bribesWanted : GoodIn wsL_law wsL_bribesWanted := goodIn_ca (goodIn_r _ [756, 110, 757, 758, 759, 2, 760, 16, 211, 212, 213, 214, 66, 215, 216, 217, 29, 218, 158, 121, 122, 123, 124, 125, 761, 762, 763, 15, 764, 30, 249, 314, 26, 765, 315, 766, 321, 322, 323, 324, 22, 325, 261, 209, 262, 326, 118, 119, 120, 88, 767, 628, 629, 630, 317, 318, 319, 320, 327, 328, 329, 25, 330, 130, 35, 331, 332, 333, 334, 34, 36, 768, 862, 863, 873, 874, 875, 876, 877, 878, 879, 885, 886, 887, 888, 889, 890, 880, 881, 882, 883, 884] (by decide +kernel) (by decide +kernel)) (goodIn_sub (fun _ h => List.mem_append_right _ h) (by decide +kernel))
set_option maxRecDepth 20000 in
theorem gL_law_L_bribesWanted : GoodIn wsL_law (va_wsS RL 235 yL_bribesWanted wsL_bribesWanted) := goodIn_app (goodIn_of _ (by decide +kernel)) ggL_law_L_bribesWanted
set_option maxRecDepth 20000 in
theorem ggL_law_X4_bribesWanted : GoodIn wsL_law wsX4_bribesWanted := goodIn_r _ [772, 93, 224, 225, 226, 5, 227, 95, 96, 97, 98, 773, 774, 775, 776, 21, 135, 52, 267, 268, 269, 270, 94, 228, 229, 230, 231, 53, 635, 636, 637, 638, 373, 374, 375, 376, 377, 378, 379, 380, 51, 276, 277, 278, 279, 381, 382, 383, 384, 50, 275, 261, 209, 262, 99, 100, 101, 102, 864, 865, 866, 867, 868, 869, 870, 871, 872] (by decide +kernel) (by decide +kernel)
set_option maxRecDepth 20000 in
theorem gL_law_X4_bribesWanted : GoodIn wsL_law (wsV RL 237 RX4 yX4_bribesWanted wsX4_bribesWanted) := goodIn_app (goodIn_of _ (by decide +kernel)) ggL_law_X4_bribesWanted
set_option maxRecDepth 20000 in
theorem ggL_law_L_rankWanted : GoodIn wsL_law wsL_rankWanted := goodIn_ca (goodIn_r _ [779, 110, 780, 781, 782, 2, 783, 16, 66, 239, 603, 211, 212, 213, 214, 215, 216, 217, 29, 218, 158, 121, 122, 123, 124, 125, 492, 318, 319, 15, 320, 26, 321, 322, 323, 324, 22, 325, 261, 209, 262, 326, 118, 119, 120, 88, 327, 328, 329, 25, 330, 130, 35, 331, 332, 333, 334, 34, 36, 862, 863, 873, 874, 875, 876, 877, 878, 879, 885, 886, 887, 888, 889, 890, 880, 881, 882, 883, 884] (by decide +kernel) (by decide +kernel)) (goodIn_sub (fun _ h => List.mem_append_right _ h) (by decide +kernel))
set_option maxRecDepth 20000 in
theorem gL_law_L_rankWanted : GoodIn wsL_law (va_wsS RL 238 yL_rankWanted wsL_rankWanted) := goodIn_app (goodIn_of _ (by decide +kernel)) ggL_law_L_rankWanted
set_option maxRecDepth 20000 in
theorem ggL_law_X4_rankWanted : GoodIn wsL_law wsX4_rankWanted := goodIn_r _ [787, 93, 224, 225, 226, 5, 227, 95, 96, 97, 98, 788, 789, 790, 791, 267, 268, 269, 270, 94, 228, 229, 230, 231, 53, 373, 374, 375, 376, 135, 377, 378, 379, 380, 51, 276, 277, 278, 279, 381, 382, 383, 384, 50, 275, 261, 209, 262, 99, 100, 101, 102, 864, 865, 866, 867, 868, 869, 870, 871, 872] (by decide +kernel) (by decide +kernel)
set_option maxRecDepth 20000 in
theorem gL_law_X4_rankWanted : GoodIn wsL_law (wsV RL 240 RX4 yX4_rankWanted wsX4_rankWanted) := goodIn_app (goodIn_of _ (by decide +kernel)) ggL_law_X4_rankWanted
set_option maxRecDepth 20000 in
theorem ggL_law_L_firstBar : GoodIn wsL_law wsL_firstBar := goodIn_ca (goodIn_r _ [794, 59, 795, 796, 797, 2, 798, 16, 65, 68, 69, 70, 71, 72, 73, 151, 152, 153, 74, 75, 76, 77, 78, 492, 318, 319, 15, 320, 26, 321, 322, 323, 324, 22, 325, 261, 209, 262, 326, 118, 119, 120, 88, 327, 328, 329, 25, 330, 130, 35, 331, 332, 333, 334, 34, 36, 862, 863, 873, 874, 875, 876, 877, 878, 879, 880, 881, 882, 883, 884] (by decide +kernel) (by decide +kernel)) (goodIn_sub (fun _ h => List.mem_append_left _ (List.mem_append_left _ (List.mem_append_right _ h))) (by decide +kernel))
set_option maxRecDepth 20000 in
theorem gL_law_L_firstBar : GoodIn wsL_law (va_wsS RL 241 yL_firstBar wsL_firstBar) := goodIn_app (goodIn_of _ (by decide +kernel)) ggL_law_L_firstBar
set_option maxRecDepth 20000 in
theorem ggL_law_X4_firstBar : GoodIn wsL_law wsX4_firstBar := goodIn_r _ [802, 93, 94, 96, 97, 5, 98, 99, 100, 101, 102, 373, 374, 375, 376, 135, 377, 378, 379, 380, 51, 276, 277, 278, 279, 53, 381, 382, 383, 384, 50, 275, 261, 209, 262, 864, 865, 866, 867, 868, 869, 870, 871, 872] (by decide +kernel) (by decide +kernel)
set_option maxRecDepth 20000 in
theorem gL_law_X4_firstBar : GoodIn wsL_law (wsV RL 243 RX4 yX4_firstBar wsX4_firstBar) := goodIn_app (goodIn_of _ (by decide +kernel)) ggL_law_X4_firstBar
set_option maxRecDepth 20000 in
theorem ggL_law_X3_meanTemper : GoodIn wsL_law wsX3_meanTemper := goodIn_r _ [806, 16, 115, 116, 807, 808, 809, 25, 810, 130, 35, 862, 863, 873, 874, 875, 876, 877, 878, 879, 880, 881, 882, 883, 884] (by decide +kernel) (by decide +kernel)
set_option maxRecDepth 20000 in
theorem gL_law_X3_meanTemper : GoodIn wsL_law (wsV RL 244 RX3 yX3_meanTemper wsX3_meanTemper) := goodIn_app (goodIn_of _ (by decide +kernel)) ggL_law_X3_meanTemper
set_option maxRecDepth 20000 in
theorem ggL_law_X4_meanTemper : GoodIn wsL_law wsX4_meanTemper := goodIn_r _ [814, 93, 135, 276, 277, 278, 5, 279, 53, 864, 865, 866, 867, 868, 869, 870, 871, 872] (by decide +kernel) (by decide +kernel)
set_option maxRecDepth 20000 in
theorem gL_law_X4_meanTemper : GoodIn wsL_law (wsV RL 248 RX4 yX4_meanTemper wsX4_meanTemper) := goodIn_app (goodIn_of _ (by decide +kernel)) ggL_law_X4_meanTemper
set_option maxRecDepth 20000 in
theorem ggL_law_X3_digest : GoodIn wsL_law wsX3_digest := goodIn_ca (goodIn_r _ [818, 819, 16, 66, 67, 820, 393, 394, 2, 395, 396, 821, 822, 823, 824, 825, 406, 407, 408, 65, 826, 414, 415, 416, 115, 116, 827, 422, 423, 424, 828, 430, 431, 432, 290, 291, 292, 15, 293, 30, 294, 295, 246, 247, 248, 249, 88, 829, 438, 439, 440, 441, 830, 447, 448, 449, 450, 831, 498, 499, 500, 492, 318, 319, 320, 26, 321, 322, 323, 324, 22, 325, 261, 209, 262, 326, 118, 119, 120, 327, 328, 329, 25, 330, 130, 35, 331, 332, 333, 334, 34, 36, 832, 833, 834, 835, 836, 459, 460, 461, 174, 117, 121, 122, 123, 124, 125, 837, 470, 471, 472, 473, 474, 475, 476, 838, 839, 840, 841, 842, 513, 514, 515, 186, 241, 242, 243, 244, 187, 188, 189, 190, 843, 524, 525, 526, 240, 844, 539, 540, 541, 542, 845, 551, 552, 553, 554, 846, 563, 564, 565, 239, 211, 212, 213, 214, 215, 216, 217, 29, 218, 158, 847, 589, 590, 591, 206, 848, 600, 601, 602, 603, 849, 612, 613, 614, 615, 850, 624, 625, 626, 627, 628, 629, 630, 314, 317, 851, 655, 656, 657, 245, 852, 670, 671, 672, 17, 673, 674, 675, 676, 677, 678, 679, 680, 304, 255, 316, 681, 682, 683, 684, 685, 37, 686, 687, 688, 689, 41, 690, 42, 43, 44, 45, 691, 692, 693, 694, 300, 301, 302, 303, 305, 306, 307, 308, 309, 310, 311, 312, 313, 315, 254, 335, 336, 337, 338, 339, 208, 210, 340, 341, 342, 343, 344, 345, 251, 252, 253, 256, 257, 258, 259, 260, 346, 347, 348, 349, 350, 351, 352, 853, 742, 743, 744, 745, 854, 758, 759, 760, 761, 762, 763, 764, 765, 766, 767, 768, 855, 781, 782, 783, 862, 863, 873, 874, 875, 876, 877, 878, 879, 885, 886, 887, 888, 889, 890, 880, 881, 882, 883, 884] (by decide +kernel) (by decide +kernel)) (goodIn_sub (fun _ h => List.mem_append_right _ h) (by decide +kernel))
set_option maxRecDepth 20000 in
theorem gL_law_X3_digest : GoodIn wsL_law (wsV RL 249 RX3 yX3_digest wsX3_digest) := goodIn_app (goodIn_of _ (by decide +kernel)) ggL_law_X3_digest
set_option maxRecDepth 20000 in
theorem ggL_law_X4_digest : GoodIn wsL_law wsX4_digest := goodIn_r _ [859, 93, 21, 53, 94, 135, 95, 860, 861, 50, 51, 357, 358, 359, 5, 360, 267, 268, 269, 270, 228, 229, 230, 231, 505, 506, 507, 508, 373, 374, 375, 376, 377, 378, 379, 380, 276, 277, 278, 279, 381, 382, 383, 384, 275, 261, 209, 262, 481, 482, 483, 484, 635, 636, 637, 638, 52, 662, 663, 664, 665, 699, 700, 701, 702, 703, 704, 705, 706, 54, 707, 678, 679, 680, 708, 709, 710, 711, 365, 366, 367, 368, 140, 141, 142, 143, 369, 370, 371, 372, 223, 208, 210, 163, 164, 165, 166, 385, 386, 387, 388, 271, 272, 273, 274, 389, 390, 391, 712, 713, 714, 715, 750, 751, 752, 753, 773, 774, 775, 776, 788, 789, 790, 791, 864, 865, 866, 867, 868, 869, 870, 871, 872] (by decide +kernel) (by decide +kernel)
set_option maxRecDepth 20000 in
theorem gL_law_X4_digest : GoodIn wsL_law (wsV RL 253 RX4 yX4_digest wsX4_digest) := goodIn_app (goodIn_of _ (by decide +kernel)) ggL_law_X4_digest
