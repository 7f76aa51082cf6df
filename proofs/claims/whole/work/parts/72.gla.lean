set_option maxRecDepth 20000 in
theorem ggL_law_X7_init : GoodIn wsL_law wsX7_init := goodIn_r _ [8, 9, 10, 11, 12, 13, 14, 15, 16, 17, 18, 19, 20, 21, 22, 23, 24, 25, 26, 27, 28, 29, 30, 31, 32, 33, 34, 35, 36, 37, 38, 39, 40, 41, 42, 43, 44, 45, 46, 47, 48, 49, 50, 51, 52, 53, 54, 55, 56, 57, 58, 59, 60, 61, 62, 63, 64, 65, 66, 67, 68, 69, 70, 71, 72, 73, 74, 75, 76, 77, 78, 79, 80, 81, 82, 83, 84, 85, 86, 87, 88, 89, 90, 91, 871, 872, 873, 874, 875, 876, 877, 878, 879, 880, 833, 834, 835, 836, 837, 838, 839, 840, 841, 842, 881, 882, 883, 884, 885, 886, 887, 888, 889, 890, 891, 892, 893, 894, 895, 896, 897, 898, 899, 900, 901, 902, 903, 904, 905, 906, 907, 908, 909, 910, 911, 912, 913, 914, 915, 916] (by decide +kernel) (by decide +kernel)
set_option maxRecDepth 20000 in
theorem gL_law_X7_init : GoodIn wsL_law (wsX7_init) := ggL_law_X7_init
set_option maxRecDepth 20000 in
theorem ggL_law_X8_init : GoodIn wsL_law wsX8_init := goodIn_r _ [94, 95, 10, 11, 47, 96, 97, 25, 98, 99, 100, 101, 102, 103, 104, 105, 106, 107, 108, 109, 110, 111, 112, 113, 5, 114, 115, 116, 117, 118, 843, 844, 845, 846, 847, 848, 849, 850, 851, 852, 853, 854, 855, 856, 857, 858, 859, 860, 861, 862, 863, 864, 865, 866, 867, 868, 869, 870] (by decide +kernel) (by decide +kernel)
set_option maxRecDepth 20000 in
theorem gL_law_X8_init : GoodIn wsL_law (wsX8_init) := ggL_law_X8_init
set_option maxRecDepth 20000 in
theorem ggL_law_X7_feed : GoodIn wsL_law wsX7_feed := goodIn_r _ [122, 123, 15, 124, 125, 126, 127, 2, 128, 129, 130, 131, 14, 132, 133, 134, 135, 136, 137, 48, 138, 833, 834, 835, 836, 837, 838, 839, 840, 841, 842, 871, 872, 873, 874, 875, 876, 877, 878, 879, 880] (by decide +kernel) (by decide +kernel)
set_option maxRecDepth 20000 in
theorem gL_law_X7_feed : GoodIn wsL_law (wsV RL 13 RX7 yX7_feed wsX7_feed) := goodIn_app (goodIn_of _ (by decide +kernel)) ggL_law_X7_feed
set_option maxRecDepth 20000 in
theorem ggL_law_X8_feed : GoodIn wsL_law wsX8_feed := goodIn_r _ [142, 143, 144, 145, 146, 99, 147, 148, 5, 149, 843, 844, 845, 846, 847, 848, 849, 850, 851, 852, 853, 854, 855, 856, 857, 858, 859, 860, 861, 862, 863, 864, 865, 866, 867, 868, 869, 870] (by decide +kernel) (by decide +kernel)
set_option maxRecDepth 20000 in
theorem gL_law_X8_feed : GoodIn wsL_law (wsV RL 17 RX8 yX8_feed wsX8_feed) := goodIn_app (goodIn_of _ (by decide +kernel)) ggL_law_X8_feed
set_option maxRecDepth 20000 in
theorem ggL_law_X7_cut : GoodIn wsL_law wsX7_cut := goodIn_r _ [153, 15, 125, 154, 43, 155, 19, 156, 23, 157, 158, 159, 30, 26, 160, 161, 162, 163, 164, 14, 165, 166, 167, 168, 169, 52, 49, 170, 171, 172, 173, 174, 133, 48, 175, 176, 177, 178, 179, 180, 181, 182, 183, 184, 185, 186, 187, 188, 189, 190, 191, 192, 193, 194, 195, 196, 197, 50, 51, 198, 199, 200, 201, 202, 203, 204, 127, 2, 128, 205, 206, 207, 208, 209, 210, 211, 212, 213, 214, 215, 216, 217, 218, 219, 18, 220, 57, 221, 222, 223, 22, 224, 63, 64, 225, 226, 227, 228, 37, 229, 230, 231, 232, 233, 234, 235, 68, 69, 70, 236, 237, 238, 29, 239, 240, 241, 833, 834, 835, 836, 837, 838, 839, 840, 841, 842, 871, 872, 873, 874, 875, 876, 877, 878, 879, 880, 882, 883, 884, 885, 898, 899, 900, 901, 902, 881, 886, 887, 888, 889, 890, 891, 892, 893] (by decide +kernel) (by decide +kernel)
set_option maxRecDepth 20000 in
theorem gL_law_X7_cut : GoodIn wsL_law (wsV RL 18 RX7 yX7_cut wsX7_cut) := goodIn_app (goodIn_of _ (by decide +kernel)) ggL_law_X7_cut
set_option maxRecDepth 20000 in
theorem ggL_law_X8_cut : GoodIn wsL_law wsX8_cut := goodIn_r _ [245, 145, 118, 96, 115, 246, 101, 102, 97, 98, 247, 248, 111, 112, 113, 5, 114, 116, 117, 100, 249, 250, 251, 252, 253, 254, 255, 256, 257, 99, 258, 259, 260, 261, 262, 263, 264, 265, 266, 267, 268, 269, 270, 271, 272, 273, 274, 275, 276, 277, 278, 279, 280, 147, 148, 149, 281, 282, 283, 284, 285, 286, 287, 288, 843, 844, 845, 846, 847, 848, 849, 850, 851, 852, 853, 854, 855, 856, 857, 858, 859, 860, 861, 862, 863, 864, 865, 866, 867, 868, 869, 870] (by decide +kernel) (by decide +kernel)
set_option maxRecDepth 20000 in
theorem gL_law_X8_cut : GoodIn wsL_law (wsV RL 22 RX8 yX8_cut wsX8_cut) := goodIn_app (goodIn_of _ (by decide +kernel)) ggL_law_X8_cut
set_option maxRecDepth 20000 in
theorem ggL_law_X7_fault : GoodIn wsL_law wsX7_fault := goodIn_r _ [292, 43, 833, 834, 835, 836, 837, 838, 839, 840, 841, 842] (by decide +kernel) (by decide +kernel)
set_option maxRecDepth 20000 in
theorem gL_law_X7_fault : GoodIn wsL_law (wsV RL 23 RX7 yX7_fault wsX7_fault) := goodIn_app (goodIn_of _ (by decide +kernel)) ggL_law_X7_fault
set_option maxRecDepth 20000 in
theorem ggL_law_X8_fault : GoodIn wsL_law wsX8_fault := goodIn_r _ [296, 100, 843, 844, 845, 846, 847, 848, 849, 850, 851, 852, 853, 854, 855, 856, 857, 858, 859, 860, 861, 862, 863, 864, 865, 866, 867, 868, 869, 870] (by decide +kernel) (by decide +kernel)
set_option maxRecDepth 20000 in
theorem gL_law_X8_fault : GoodIn wsL_law (wsV RL 26 RX8 yX8_fault wsX8_fault) := goodIn_app (goodIn_of _ (by decide +kernel)) ggL_law_X8_fault
set_option maxRecDepth 20000 in
theorem ggL_law_X7_told : GoodIn wsL_law wsX7_told := goodIn_r _ [300, 123, 19, 301, 23, 160, 161, 15, 125, 302, 303, 304, 30, 305, 306, 126, 127, 2, 128, 307, 308, 309, 18, 310, 57, 311, 312, 313, 314, 315, 316, 232, 317, 318, 319, 320, 321, 322, 323, 324, 325, 326, 327, 328, 329, 330, 331, 332, 333, 334, 335, 336, 337, 833, 834, 835, 836, 837, 838, 839, 840, 841, 842, 881, 882, 883, 884, 885, 898, 899, 900, 901, 902, 871, 872, 873, 874, 875, 876, 877, 878, 879, 880, 886, 887, 888, 889, 890, 891, 892, 893] (by decide +kernel) (by decide +kernel)
set_option maxRecDepth 20000 in
theorem gL_law_X7_told : GoodIn wsL_law (wsV RL 27 RX7 yX7_told wsX7_told) := goodIn_app (goodIn_of _ (by decide +kernel)) ggL_law_X7_told
set_option maxRecDepth 20000 in
theorem ggL_law_X8_told : GoodIn wsL_law wsX8_told := goodIn_r _ [341, 246, 145, 96, 97, 247, 248, 342, 144, 343, 344, 345, 5, 346, 347, 348, 349, 350, 351, 352, 353, 354, 147, 148, 149, 843, 844, 845, 846, 847, 848, 849, 850, 851, 852, 853, 854, 855, 856, 857, 858, 859, 860, 861, 862, 863, 864, 865, 866, 867, 868, 869, 870] (by decide +kernel) (by decide +kernel)
set_option maxRecDepth 20000 in
theorem gL_law_X8_told : GoodIn wsL_law (wsV RL 30 RX8 yX8_told wsX8_told) := goodIn_app (goodIn_of _ (by decide +kernel)) ggL_law_X8_told
set_option maxRecDepth 20000 in
theorem ggL_law_X7_yard : GoodIn wsL_law wsX7_yard := goodIn_r _ [358, 23, 160, 359, 360, 361, 362, 123, 363, 364, 365, 37, 366, 234, 833, 834, 835, 836, 837, 838, 839, 840, 841, 842, 882, 883, 884, 885, 898, 899, 900, 901, 902] (by decide +kernel) (by decide +kernel)
set_option maxRecDepth 20000 in
theorem gL_law_X7_yard : GoodIn wsL_law (wsV RL 31 RX7 yX7_yard wsX7_yard) := goodIn_app (goodIn_of _ (by decide +kernel)) ggL_law_X7_yard
set_option maxRecDepth 20000 in
theorem ggL_law_X8_yard : GoodIn wsL_law wsX8_yard := goodIn_r _ [370, 371, 96, 144, 372, 373, 374, 5, 375, 246, 147, 148, 149, 843, 844, 845, 846, 847, 848, 849, 850, 851, 852, 853, 854, 855, 856, 857, 858, 859, 860, 861, 862, 863, 864, 865, 866, 867, 868, 869, 870] (by decide +kernel) (by decide +kernel)
set_option maxRecDepth 20000 in
theorem gL_law_X8_yard : GoodIn wsL_law (wsV RL 35 RX8 yX8_yard wsX8_yard) := goodIn_app (goodIn_of _ (by decide +kernel)) ggL_law_X8_yard
set_option maxRecDepth 20000 in
theorem ggL_law_X7_grows : GoodIn wsL_law wsX7_grows := goodIn_r _ [379, 23, 160, 359, 123, 360, 361, 363, 364, 365, 37, 366, 234, 126, 127, 2, 128, 380, 381, 382, 833, 834, 835, 836, 837, 838, 839, 840, 841, 842, 882, 883, 884, 885, 898, 899, 900, 901, 902] (by decide +kernel) (by decide +kernel)
set_option maxRecDepth 20000 in
theorem gL_law_X7_grows : GoodIn wsL_law (wsV RL 36 RX7 yX7_grows wsX7_grows) := goodIn_app (goodIn_of _ (by decide +kernel)) ggL_law_X7_grows
set_option maxRecDepth 20000 in
theorem ggL_law_X8_grows : GoodIn wsL_law wsX8_grows := goodIn_r _ [386, 371, 387, 96, 144, 372, 373, 374, 5, 375, 246, 147, 148, 149, 388, 389, 390, 843, 844, 845, 846, 847, 848, 849, 850, 851, 852, 853, 854, 855, 856, 857, 858, 859, 860, 861, 862, 863, 864, 865, 866, 867, 868, 869, 870] (by decide +kernel) (by decide +kernel)
set_option maxRecDepth 20000 in
theorem gL_law_X8_grows : GoodIn wsL_law (wsV RL 39 RX8 yX8_grows wsX8_grows) := goodIn_app (goodIn_of _ (by decide +kernel)) ggL_law_X8_grows
set_option maxRecDepth 20000 in
theorem ggL_law_X7_night : GoodIn wsL_law wsX7_night := goodIn_r _ [394, 123, 23, 302, 124, 160, 126, 127, 2, 128, 395, 396, 397, 22, 398, 63, 225, 399, 400, 401, 37, 402, 234, 69, 68, 403, 404, 405, 406, 235, 70, 407, 408, 409, 410, 411, 412, 413, 414, 415, 416, 230, 231, 232, 233, 417, 381, 382, 418, 419, 420, 421, 833, 834, 835, 836, 837, 838, 839, 840, 841, 842, 882, 883, 884, 885, 898, 899, 900, 901, 902] (by decide +kernel) (by decide +kernel)
set_option maxRecDepth 20000 in
theorem gL_law_X7_night : GoodIn wsL_law (wsV RL 40 RX7 yX7_night wsX7_night) := goodIn_app (goodIn_of _ (by decide +kernel)) ggL_law_X7_night
