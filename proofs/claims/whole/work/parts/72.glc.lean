set_option maxRecDepth 20000 in
theorem ggL_law_X7_horses : GoodIn wsL_law wsX7_horses := goodIn_r _ [593, 123, 19, 23, 303, 34, 160, 475, 476, 2, 477, 126, 127, 128, 307, 308, 309, 18, 310, 57, 311, 312, 313, 314, 315, 316, 232, 317, 318, 319, 320, 580, 336, 337, 482, 483, 484, 485, 581, 582, 583, 33, 584, 490, 493, 585, 487, 488, 489, 491, 492, 494, 495, 83, 496, 497, 498, 833, 834, 835, 836, 837, 838, 839, 840, 841, 842, 882, 883, 884, 885, 881, 894, 895, 896, 897, 898, 899, 900, 901, 902] (by decide +kernel) (by decide +kernel)
set_option maxRecDepth 20000 in
theorem gL_law_X7_horses : GoodIn wsL_law (wsV RL 72 RX7 yX7_horses wsX7_horses) := goodIn_app (goodIn_of _ (by decide +kernel)) ggL_law_X7_horses
set_option maxRecDepth 20000 in
theorem ggL_law_X8_horses : GoodIn wsL_law wsX8_horses := goodIn_r _ [597, 144, 97, 96, 508, 246, 509, 510, 5, 511, 512, 147, 148, 149, 343, 344, 345, 346, 559, 560, 561, 562, 563, 564, 565, 566, 513, 514, 515, 516, 517, 518, 103, 843, 844, 845, 846, 847, 848, 849, 850, 851, 852, 853, 854, 855, 856, 857, 858, 859, 860, 861, 862, 863, 864, 865, 866, 867, 868, 869, 870] (by decide +kernel) (by decide +kernel)
set_option maxRecDepth 20000 in
theorem gL_law_X8_horses : GoodIn wsL_law (wsV RL 75 RX8 yX8_horses wsX8_horses) := goodIn_app (goodIn_of _ (by decide +kernel)) ggL_law_X8_horses
set_option maxRecDepth 20000 in
theorem ggL_law_X7_string : GoodIn wsL_law wsX7_string := goodIn_r _ [601, 123, 34, 602, 19, 475, 476, 2, 477, 126, 127, 128, 478, 479, 480, 481, 23, 160, 321, 322, 323, 324, 303, 325, 326, 327, 18, 328, 329, 330, 331, 332, 57, 333, 308, 309, 310, 334, 312, 313, 314, 315, 316, 232, 317, 318, 319, 320, 335, 336, 337, 482, 483, 484, 485, 486, 487, 488, 33, 489, 490, 491, 492, 493, 494, 495, 83, 496, 497, 498, 603, 604, 605, 606, 833, 834, 835, 836, 837, 838, 839, 840, 841, 842, 894, 895, 896, 897, 882, 883, 884, 885, 881, 898, 899, 900, 901, 902] (by decide +kernel) (by decide +kernel)
set_option maxRecDepth 20000 in
theorem gL_law_X7_string : GoodIn wsL_law (wsV RL 76 RX7 yX7_string wsX7_string) := goodIn_app (goodIn_of _ (by decide +kernel)) ggL_law_X7_string
set_option maxRecDepth 20000 in
theorem ggL_law_X8_string : GoodIn wsL_law wsX8_string := goodIn_r _ [610, 426, 144, 518, 97, 509, 510, 5, 511, 512, 147, 148, 149, 347, 348, 349, 350, 96, 343, 344, 345, 346, 559, 560, 561, 562, 563, 564, 565, 566, 513, 514, 515, 516, 508, 517, 246, 103, 843, 844, 845, 846, 847, 848, 849, 850, 851, 852, 853, 854, 855, 856, 857, 858, 859, 860, 861, 862, 863, 864, 865, 866, 867, 868, 869, 870] (by decide +kernel) (by decide +kernel)
set_option maxRecDepth 20000 in
theorem gL_law_X8_string : GoodIn wsL_law (wsV RL 79 RX8 yX8_string wsX8_string) := goodIn_app (goodIn_of _ (by decide +kernel)) ggL_law_X8_string
set_option maxRecDepth 20000 in
theorem ggL_law_X7_turn : GoodIn wsL_law wsX7_turn := goodIn_r _ [614, 123, 34, 19, 475, 476, 2, 477, 126, 127, 128, 478, 479, 480, 481, 23, 160, 321, 322, 323, 324, 303, 325, 326, 327, 18, 328, 329, 330, 331, 332, 57, 333, 308, 309, 310, 334, 312, 313, 314, 315, 316, 232, 317, 318, 319, 320, 335, 336, 337, 482, 483, 484, 485, 486, 487, 488, 33, 489, 490, 491, 492, 493, 494, 495, 83, 496, 497, 498, 603, 604, 605, 606, 615, 616, 617, 618, 619, 620, 621, 622, 833, 834, 835, 836, 837, 838, 839, 840, 841, 842, 882, 883, 884, 885, 881, 894, 895, 896, 897, 898, 899, 900, 901, 902] (by decide +kernel) (by decide +kernel)
set_option maxRecDepth 20000 in
theorem gL_law_X7_turn : GoodIn wsL_law (wsV RL 80 RX7 yX7_turn wsX7_turn) := goodIn_app (goodIn_of _ (by decide +kernel)) ggL_law_X7_turn
set_option maxRecDepth 20000 in
theorem ggL_law_X8_turn : GoodIn wsL_law wsX8_turn := goodIn_r _ [626, 144, 508, 103, 518, 97, 509, 510, 5, 511, 512, 147, 148, 149, 347, 348, 349, 350, 96, 343, 344, 345, 346, 559, 560, 561, 562, 563, 564, 565, 566, 513, 514, 515, 516, 517, 246, 843, 844, 845, 846, 847, 848, 849, 850, 851, 852, 853, 854, 855, 856, 857, 858, 859, 860, 861, 862, 863, 864, 865, 866, 867, 868, 869, 870] (by decide +kernel) (by decide +kernel)
set_option maxRecDepth 20000 in
theorem gL_law_X8_turn : GoodIn wsL_law (wsV RL 83 RX8 yX8_turn wsX8_turn) := goodIn_app (goodIn_of _ (by decide +kernel)) ggL_law_X8_turn
set_option maxRecDepth 20000 in
theorem ggL_law_X7_plan : GoodIn wsL_law wsX7_plan := goodIn_r _ [630, 123, 23, 160, 161, 473, 42, 19, 631, 632, 126, 127, 2, 128, 475, 476, 477, 633, 634, 635, 41, 636, 91, 637, 638, 231, 232, 233, 639, 640, 641, 642, 643, 644, 645, 646, 37, 647, 234, 235, 68, 69, 70, 648, 326, 327, 18, 328, 329, 330, 331, 332, 57, 333, 308, 309, 310, 334, 312, 313, 314, 315, 316, 317, 318, 319, 320, 335, 336, 337, 649, 483, 484, 485, 650, 651, 652, 653, 654, 655, 656, 657, 658, 659, 660, 661, 662, 663, 664, 665, 666, 667, 668, 669, 670, 671, 672, 673, 674, 675, 676, 677, 89, 678, 679, 680, 681, 682, 683, 400, 401, 402, 403, 404, 405, 406, 407, 408, 409, 410, 411, 412, 413, 414, 415, 416, 230, 417, 381, 382, 684, 582, 583, 33, 584, 490, 493, 585, 487, 488, 489, 491, 492, 494, 495, 83, 496, 497, 498, 685, 500, 501, 502, 833, 834, 835, 836, 837, 838, 839, 840, 841, 842, 882, 883, 884, 885, 898, 899, 900, 901, 902, 903, 904, 905, 906, 907, 908, 909, 910, 911, 912, 913, 914, 915, 916, 881, 894, 895, 896, 897] (by decide +kernel) (by decide +kernel)
set_option maxRecDepth 20000 in
theorem gL_law_X7_plan : GoodIn wsL_law (wsV RL 84 RX7 yX7_plan wsX7_plan) := goodIn_app (goodIn_of _ (by decide +kernel)) ggL_law_X7_plan
set_option maxRecDepth 20000 in
theorem ggL_law_X8_plan : GoodIn wsL_law wsX8_plan := goodIn_r _ [689, 690, 387, 144, 246, 507, 691, 147, 148, 5, 149, 509, 510, 511, 512, 692, 693, 694, 695, 97, 508, 563, 564, 565, 566, 96, 347, 348, 349, 350, 343, 344, 345, 346, 513, 514, 515, 516, 517, 518, 103, 427, 428, 429, 430, 431, 432, 433, 434, 388, 389, 390, 843, 844, 845, 846, 847, 848, 849, 850, 851, 852, 853, 854, 855, 856, 857, 858, 859, 860, 861, 862, 863, 864, 865, 866, 867, 868, 869, 870] (by decide +kernel) (by decide +kernel)
set_option maxRecDepth 20000 in
theorem gL_law_X8_plan : GoodIn wsL_law (wsV RL 88 RX8 yX8_plan wsX8_plan) := goodIn_app (goodIn_of _ (by decide +kernel)) ggL_law_X8_plan
set_option maxRecDepth 20000 in
theorem ggL_law_X7_lost : GoodIn wsL_law wsX7_lost := goodIn_r _ [699, 123, 38, 23, 160, 34, 19, 126, 127, 2, 128, 475, 476, 477, 321, 322, 323, 324, 303, 325, 326, 327, 18, 328, 329, 330, 331, 332, 57, 333, 308, 309, 310, 334, 312, 313, 314, 315, 316, 232, 317, 318, 319, 320, 335, 336, 337, 700, 645, 646, 37, 647, 234, 235, 68, 69, 70, 701, 400, 401, 402, 403, 404, 405, 406, 407, 408, 409, 410, 411, 412, 413, 414, 415, 416, 230, 231, 233, 417, 381, 382, 482, 483, 484, 485, 581, 582, 583, 33, 584, 490, 493, 585, 487, 488, 489, 491, 492, 494, 495, 83, 496, 497, 498, 833, 834, 835, 836, 837, 838, 839, 840, 841, 842, 882, 883, 884, 885, 881, 898, 899, 900, 901, 902, 894, 895, 896, 897] (by decide +kernel) (by decide +kernel)
set_option maxRecDepth 20000 in
theorem gL_law_X7_lost : GoodIn wsL_law (wsV RL 89 RX7 yX7_lost wsX7_lost) := goodIn_app (goodIn_of _ (by decide +kernel)) ggL_law_X7_lost
set_option maxRecDepth 20000 in
theorem ggL_law_X8_lost : GoodIn wsL_law wsX8_lost := goodIn_r _ [705, 387, 144, 104, 96, 508, 246, 147, 148, 5, 149, 509, 510, 511, 512, 347, 348, 349, 350, 97, 343, 344, 345, 346, 563, 564, 565, 566, 513, 514, 515, 516, 517, 518, 103, 427, 428, 429, 430, 431, 432, 433, 434, 388, 389, 390, 843, 844, 845, 846, 847, 848, 849, 850, 851, 852, 853, 854, 855, 856, 857, 858, 859, 860, 861, 862, 863, 864, 865, 866, 867, 868, 869, 870] (by decide +kernel) (by decide +kernel)
set_option maxRecDepth 20000 in
theorem gL_law_X8_lost : GoodIn wsL_law (wsV RL 92 RX8 yX8_lost wsX8_lost) := goodIn_app (goodIn_of _ (by decide +kernel)) ggL_law_X8_lost
set_option maxRecDepth 20000 in
theorem ggL_law_X7_odds : GoodIn wsL_law wsX7_odds := goodIn_r _ [709, 123, 42, 23, 19, 126, 127, 2, 128, 475, 476, 477, 633, 634, 635, 41, 636, 91, 637, 638, 231, 232, 233, 639, 640, 641, 642, 643, 644, 645, 646, 37, 647, 234, 235, 68, 69, 70, 648, 326, 327, 18, 328, 329, 330, 331, 332, 57, 333, 308, 309, 310, 334, 312, 313, 314, 315, 316, 317, 318, 319, 320, 335, 336, 337, 649, 483, 484, 485, 710, 711, 712, 713, 654, 714, 715, 716, 717, 718, 719, 720, 89, 721, 684, 582, 583, 33, 584, 490, 493, 585, 487, 488, 489, 491, 492, 494, 495, 83, 496, 497, 498, 722, 448, 449, 450, 451, 403, 404, 405, 406, 407, 408, 409, 410, 411, 412, 413, 683, 400, 401, 402, 414, 415, 416, 230, 417, 381, 382, 833, 834, 835, 836, 837, 838, 839, 840, 841, 842, 903, 904, 905, 906, 907, 908, 909, 910, 911, 912, 913, 914, 915, 916, 882, 883, 884, 885, 898, 899, 900, 901, 902, 881, 894, 895, 896, 897] (by decide +kernel) (by decide +kernel)
set_option maxRecDepth 20000 in
theorem gL_law_X7_odds : GoodIn wsL_law (wsV RL 93 RX7 yX7_odds wsX7_odds) := goodIn_app (goodIn_of _ (by decide +kernel)) ggL_law_X7_odds
set_option maxRecDepth 20000 in
theorem ggL_law_X8_odds : GoodIn wsL_law wsX8_odds := goodIn_r _ [726, 690, 387, 456, 727, 144, 728, 508, 246, 147, 148, 5, 149, 509, 510, 511, 512, 347, 348, 349, 350, 97, 96, 343, 344, 345, 346, 563, 564, 565, 566, 457, 458, 459, 460, 431, 432, 433, 434, 427, 428, 429, 430, 388, 389, 390, 513, 514, 515, 516, 517, 518, 103, 843, 844, 845, 846, 847, 848, 849, 850, 851, 852, 853, 854, 855, 856, 857, 858, 859, 860, 861, 862, 863, 864, 865, 866, 867, 868, 869, 870] (by decide +kernel) (by decide +kernel)
set_option maxRecDepth 20000 in
theorem gL_law_X8_odds : GoodIn wsL_law (wsV RL 97 RX8 yX8_odds wsX8_odds) := goodIn_app (goodIn_of _ (by decide +kernel)) ggL_law_X8_odds
set_option maxRecDepth 20000 in
theorem ggL_law_X7_noFall : GoodIn wsL_law wsX7_noFall := goodIn_r _ [732, 123, 733, 19, 734, 126, 127, 2, 128, 579, 330, 331, 18, 332, 57, 833, 834, 835, 836, 837, 838, 839, 840, 841, 842, 881] (by decide +kernel) (by decide +kernel)
set_option maxRecDepth 20000 in
theorem gL_law_X7_noFall : GoodIn wsL_law (wsV RL 98 RX7 yX7_noFall wsX7_noFall) := goodIn_app (goodIn_of _ (by decide +kernel)) ggL_law_X7_noFall
set_option maxRecDepth 20000 in
theorem ggL_law_X8_noFall : GoodIn wsL_law wsX8_noFall := goodIn_r _ [738, 426, 739, 144, 728, 97, 147, 148, 5, 149, 843, 844, 845, 846, 847, 848, 849, 850, 851, 852, 853, 854, 855, 856, 857, 858, 859, 860, 861, 862, 863, 864, 865, 866, 867, 868, 869, 870] (by decide +kernel) (by decide +kernel)
set_option maxRecDepth 20000 in
theorem gL_law_X8_noFall : GoodIn wsL_law (wsV RL 101 RX8 yX8_noFall wsX8_noFall) := goodIn_app (goodIn_of _ (by decide +kernel)) ggL_law_X8_noFall
set_option maxRecDepth 20000 in
theorem ggL_law_X7_bore : GoodIn wsL_law wsX7_bore := goodIn_r _ [743, 23, 160, 359, 123, 30, 305, 124, 363, 364, 365, 37, 366, 234, 126, 127, 2, 128, 744, 745, 746, 29, 747, 240, 74, 75, 76, 77, 833, 834, 835, 836, 837, 838, 839, 840, 841, 842, 882, 883, 884, 885, 886, 887, 888, 889, 890, 891, 892, 893, 898, 899, 900, 901, 902] (by decide +kernel) (by decide +kernel)
set_option maxRecDepth 20000 in
theorem gL_law_X7_bore : GoodIn wsL_law (wsV RL 102 RX7 yX7_bore wsX7_bore) := goodIn_app (goodIn_of _ (by decide +kernel)) ggL_law_X7_bore
