set_option maxRecDepth 20000 in
theorem ggL_law_X8_night : GoodIn wsL_law wsX8_night := goodIn_r _ [425, 387, 426, 144, 96, 146, 147, 148, 5, 149, 427, 428, 429, 430, 246, 431, 432, 433, 434, 388, 389, 390, 435, 436, 437, 438, 843, 844, 845, 846, 847, 848, 849, 850, 851, 852, 853, 854, 855, 856, 857, 858, 859, 860, 861, 862, 863, 864, 865, 866, 867, 868, 869, 870] (by decide +kernel) (by decide +kernel)
set_option maxRecDepth 20000 in
theorem gL_law_X8_night : GoodIn wsL_law (wsV RL 43 RX8 yX8_night wsX8_night) := goodIn_app (goodIn_of _ (by decide +kernel)) ggL_law_X8_night
set_option maxRecDepth 20000 in
theorem ggL_law_X7_thaw : GoodIn wsL_law wsX7_thaw := goodIn_r _ [442, 123, 23, 302, 124, 160, 126, 127, 2, 128, 443, 444, 445, 22, 446, 63, 225, 447, 448, 449, 37, 450, 234, 69, 451, 316, 232, 317, 403, 404, 405, 406, 235, 70, 68, 407, 408, 409, 410, 411, 412, 413, 418, 419, 420, 421, 833, 834, 835, 836, 837, 838, 839, 840, 841, 842, 882, 883, 884, 885, 898, 899, 900, 901, 902] (by decide +kernel) (by decide +kernel)
set_option maxRecDepth 20000 in
theorem gL_law_X7_thaw : GoodIn wsL_law (wsV RL 44 RX7 yX7_thaw wsX7_thaw) := goodIn_app (goodIn_of _ (by decide +kernel)) ggL_law_X7_thaw
set_option maxRecDepth 20000 in
theorem ggL_law_X8_thaw : GoodIn wsL_law wsX8_thaw := goodIn_r _ [455, 456, 144, 96, 146, 147, 148, 5, 149, 457, 458, 459, 460, 246, 431, 432, 433, 434, 435, 436, 437, 438, 843, 844, 845, 846, 847, 848, 849, 850, 851, 852, 853, 854, 855, 856, 857, 858, 859, 860, 861, 862, 863, 864, 865, 866, 867, 868, 869, 870] (by decide +kernel) (by decide +kernel)
set_option maxRecDepth 20000 in
theorem gL_law_X8_thaw : GoodIn wsL_law (wsV RL 47 RX8 yX8_thaw wsX8_thaw) := goodIn_app (goodIn_of _ (by decide +kernel)) ggL_law_X8_thaw
set_option maxRecDepth 20000 in
theorem ggL_law_X7_beat : GoodIn wsL_law wsX7_beat := goodIn_r _ [464, 123, 23, 303, 126, 127, 2, 128, 321, 322, 323, 324, 19, 325, 326, 327, 18, 328, 329, 330, 331, 332, 57, 333, 308, 309, 310, 334, 312, 313, 314, 315, 316, 232, 317, 318, 319, 320, 335, 336, 337, 833, 834, 835, 836, 837, 838, 839, 840, 841, 842, 882, 883, 884, 885, 881] (by decide +kernel) (by decide +kernel)
set_option maxRecDepth 20000 in
theorem gL_law_X7_beat : GoodIn wsL_law (wsV RL 48 RX7 yX7_beat wsX7_beat) := goodIn_app (goodIn_of _ (by decide +kernel)) ggL_law_X7_beat
set_option maxRecDepth 20000 in
theorem ggL_law_X8_beat : GoodIn wsL_law wsX8_beat := goodIn_r _ [468, 342, 144, 96, 147, 148, 5, 149, 347, 348, 349, 350, 97, 343, 344, 345, 346, 843, 844, 845, 846, 847, 848, 849, 850, 851, 852, 853, 854, 855, 856, 857, 858, 859, 860, 861, 862, 863, 864, 865, 866, 867, 868, 869, 870] (by decide +kernel) (by decide +kernel)
set_option maxRecDepth 20000 in
theorem gL_law_X8_beat : GoodIn wsL_law (wsV RL 51 RX8 yX8_beat wsX8_beat) := goodIn_app (goodIn_of _ (by decide +kernel)) ggL_law_X8_beat
set_option maxRecDepth 20000 in
theorem ggL_law_X7_out : GoodIn wsL_law wsX7_out := goodIn_r _ [472, 123, 23, 160, 161, 473, 34, 474, 475, 476, 2, 477, 126, 127, 128, 478, 479, 480, 481, 19, 321, 322, 323, 324, 303, 325, 326, 327, 18, 328, 329, 330, 331, 332, 57, 333, 308, 309, 310, 334, 312, 313, 314, 315, 316, 232, 317, 318, 319, 320, 335, 336, 337, 482, 483, 484, 485, 486, 487, 488, 33, 489, 490, 491, 492, 493, 494, 495, 83, 496, 497, 498, 499, 500, 501, 37, 502, 234, 69, 235, 70, 833, 834, 835, 836, 837, 838, 839, 840, 841, 842, 882, 883, 884, 885, 898, 899, 900, 901, 902, 894, 895, 896, 897, 881] (by decide +kernel) (by decide +kernel)
set_option maxRecDepth 20000 in
theorem gL_law_X7_out : GoodIn wsL_law (wsV RL 52 RX7 yX7_out wsX7_out) := goodIn_app (goodIn_of _ (by decide +kernel)) ggL_law_X7_out
set_option maxRecDepth 20000 in
theorem ggL_law_X8_out : GoodIn wsL_law wsX8_out := goodIn_r _ [506, 144, 246, 507, 508, 509, 510, 5, 511, 512, 147, 148, 149, 347, 348, 349, 350, 97, 96, 343, 344, 345, 346, 513, 514, 515, 516, 517, 518, 103, 843, 844, 845, 846, 847, 848, 849, 850, 851, 852, 853, 854, 855, 856, 857, 858, 859, 860, 861, 862, 863, 864, 865, 866, 867, 868, 869, 870] (by decide +kernel) (by decide +kernel)
set_option maxRecDepth 20000 in
theorem gL_law_X8_out : GoodIn wsL_law (wsV RL 55 RX8 yX8_out wsX8_out) := goodIn_app (goodIn_of _ (by decide +kernel)) ggL_law_X8_out
set_option maxRecDepth 20000 in
theorem ggL_law_X7_drift : GoodIn wsL_law wsX7_drift := goodIn_r _ [522, 123, 23, 302, 124, 160, 126, 127, 2, 128, 523, 524, 525, 22, 526, 527, 528, 529, 530, 531, 532, 533, 534, 535, 536, 444, 445, 446, 63, 225, 447, 448, 449, 37, 450, 234, 69, 451, 316, 232, 317, 403, 404, 405, 406, 235, 70, 68, 407, 408, 409, 410, 411, 412, 413, 537, 396, 397, 398, 399, 400, 401, 402, 414, 415, 416, 230, 231, 233, 417, 381, 382, 418, 419, 420, 421, 833, 834, 835, 836, 837, 838, 839, 840, 841, 842, 882, 883, 884, 885, 898, 899, 900, 901, 902] (by decide +kernel) (by decide +kernel)
set_option maxRecDepth 20000 in
theorem gL_law_X7_drift : GoodIn wsL_law (wsV RL 56 RX7 yX7_drift wsX7_drift) := goodIn_app (goodIn_of _ (by decide +kernel)) ggL_law_X7_drift
set_option maxRecDepth 20000 in
theorem ggL_law_X8_drift : GoodIn wsL_law wsX8_drift := goodIn_r _ [541, 426, 144, 96, 146, 147, 148, 5, 149, 542, 543, 544, 545, 546, 547, 548, 549, 457, 458, 459, 460, 246, 431, 432, 433, 434, 427, 428, 429, 430, 388, 389, 390, 435, 436, 437, 438, 843, 844, 845, 846, 847, 848, 849, 850, 851, 852, 853, 854, 855, 856, 857, 858, 859, 860, 861, 862, 863, 864, 865, 866, 867, 868, 869, 870] (by decide +kernel) (by decide +kernel)
set_option maxRecDepth 20000 in
theorem gL_law_X8_drift : GoodIn wsL_law (wsV RL 59 RX8 yX8_drift wsX8_drift) := goodIn_app (goodIn_of _ (by decide +kernel)) ggL_law_X8_drift
set_option maxRecDepth 20000 in
theorem ggL_law_X7_today : GoodIn wsL_law wsX7_today := goodIn_r _ [553, 123, 34, 474, 554, 475, 476, 2, 477, 126, 127, 128, 478, 479, 480, 481, 23, 160, 19, 321, 322, 323, 324, 303, 325, 326, 327, 18, 328, 329, 330, 331, 332, 57, 333, 308, 309, 310, 334, 312, 313, 314, 315, 316, 232, 317, 318, 319, 320, 335, 336, 337, 482, 483, 484, 485, 486, 487, 488, 33, 489, 490, 491, 492, 493, 494, 495, 83, 496, 497, 498, 833, 834, 835, 836, 837, 838, 839, 840, 841, 842, 894, 895, 896, 897, 882, 883, 884, 885, 881, 898, 899, 900, 901, 902] (by decide +kernel) (by decide +kernel)
set_option maxRecDepth 20000 in
theorem gL_law_X7_today : GoodIn wsL_law (wsV RL 60 RX7 yX7_today wsX7_today) := goodIn_app (goodIn_of _ (by decide +kernel)) ggL_law_X7_today
set_option maxRecDepth 20000 in
theorem ggL_law_X8_today : GoodIn wsL_law wsX8_today := goodIn_r _ [558, 144, 508, 517, 509, 510, 5, 511, 512, 147, 148, 149, 347, 348, 349, 350, 97, 96, 343, 344, 345, 346, 559, 560, 561, 562, 563, 564, 565, 566, 513, 514, 515, 516, 518, 246, 103, 843, 844, 845, 846, 847, 848, 849, 850, 851, 852, 853, 854, 855, 856, 857, 858, 859, 860, 861, 862, 863, 864, 865, 866, 867, 868, 869, 870] (by decide +kernel) (by decide +kernel)
set_option maxRecDepth 20000 in
theorem gL_law_X8_today : GoodIn wsL_law (wsV RL 63 RX8 yX8_today wsX8_today) := goodIn_app (goodIn_of _ (by decide +kernel)) ggL_law_X8_today
set_option maxRecDepth 20000 in
theorem ggL_law_X7_bestBeat : GoodIn wsL_law wsX7_bestBeat := goodIn_r _ [570, 19, 325, 326, 327, 18, 328, 329, 330, 331, 332, 57, 333, 308, 309, 310, 334, 312, 313, 314, 315, 316, 232, 317, 318, 319, 320, 335, 336, 337, 833, 834, 835, 836, 837, 838, 839, 840, 841, 842, 881] (by decide +kernel) (by decide +kernel)
set_option maxRecDepth 20000 in
theorem gL_law_X7_bestBeat : GoodIn wsL_law (wsV RL 64 RX7 yX7_bestBeat wsX7_bestBeat) := goodIn_app (goodIn_of _ (by decide +kernel)) ggL_law_X7_bestBeat
set_option maxRecDepth 20000 in
theorem ggL_law_X8_bestBeat : GoodIn wsL_law wsX8_bestBeat := goodIn_r _ [574, 97, 343, 344, 345, 5, 346, 843, 844, 845, 846, 847, 848, 849, 850, 851, 852, 853, 854, 855, 856, 857, 858, 859, 860, 861, 862, 863, 864, 865, 866, 867, 868, 869, 870] (by decide +kernel) (by decide +kernel)
set_option maxRecDepth 20000 in
theorem gL_law_X8_bestBeat : GoodIn wsL_law (wsV RL 67 RX8 yX8_bestBeat wsX8_bestBeat) := goodIn_app (goodIn_of _ (by decide +kernel)) ggL_law_X8_bestBeat
set_option maxRecDepth 20000 in
theorem ggL_law_X7_laggards : GoodIn wsL_law wsX7_laggards := goodIn_r _ [578, 123, 19, 23, 303, 34, 160, 475, 476, 2, 477, 126, 127, 128, 579, 330, 331, 18, 332, 57, 311, 312, 313, 314, 315, 316, 232, 317, 318, 319, 320, 580, 336, 337, 482, 483, 484, 485, 581, 582, 583, 33, 584, 490, 493, 585, 487, 488, 489, 491, 492, 494, 495, 83, 496, 497, 498, 833, 834, 835, 836, 837, 838, 839, 840, 841, 842, 882, 883, 884, 885, 881, 894, 895, 896, 897, 898, 899, 900, 901, 902] (by decide +kernel) (by decide +kernel)
set_option maxRecDepth 20000 in
theorem gL_law_X7_laggards : GoodIn wsL_law (wsV RL 68 RX7 yX7_laggards wsX7_laggards) := goodIn_app (goodIn_of _ (by decide +kernel)) ggL_law_X7_laggards
set_option maxRecDepth 20000 in
theorem ggL_law_X8_laggards : GoodIn wsL_law wsX8_laggards := goodIn_r _ [589, 144, 97, 96, 508, 246, 509, 510, 5, 511, 512, 147, 148, 149, 343, 344, 345, 346, 559, 560, 561, 562, 563, 564, 565, 566, 513, 514, 515, 516, 517, 518, 103, 843, 844, 845, 846, 847, 848, 849, 850, 851, 852, 853, 854, 855, 856, 857, 858, 859, 860, 861, 862, 863, 864, 865, 866, 867, 868, 869, 870] (by decide +kernel) (by decide +kernel)
set_option maxRecDepth 20000 in
theorem gL_law_X8_laggards : GoodIn wsL_law (wsV RL 71 RX8 yX8_laggards wsX8_laggards) := goodIn_app (goodIn_of _ (by decide +kernel)) ggL_law_X8_laggards
