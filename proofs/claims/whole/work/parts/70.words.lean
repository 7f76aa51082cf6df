/-! the words of the law, among the tables' own -/
set_option maxRecDepth 20000 in
theorem wl_1 : GoodIn lw_tbl wsL_law_r1 := goodIn_r _ [51, 52, 41, 737, 738, 49, 53, 54, 55, 56, 57, 58, 59, 60, 42, 289, 104, 105, 43, 290, 117, 118, 44, 291] (by decide +kernel) (by decide +kernel)
set_option maxRecDepth 20000 in
theorem wl_2 : GoodIn lw_tbl wsL_law_r2 := goodIn_r _ [292, 207, 293, 174, 175, 46, 294, 208, 209, 47, 295, 231, 124, 45, 296, 233, 234, 48, 297, 298, 62, 63, 64, 103] (by decide +kernel) (by decide +kernel)
set_option maxRecDepth 20000 in
theorem wl_3 : GoodIn lw_tbl wsL_law_r3 := goodIn_r _ [65, 68, 70, 72, 78, 106, 107, 108, 109, 112, 110, 120, 121, 122, 123, 154, 157, 126, 127, 128, 134, 137, 141, 177] (by decide +kernel) (by decide +kernel)
set_option maxRecDepth 20000 in
theorem wl_4 : GoodIn lw_tbl wsL_law_r4 := goodIn_r _ [178, 179, 184, 185, 186, 187, 188, 189, 211, 212, 213, 221, 235, 236, 237, 238, 239, 248, 241, 249, 739, 740, 741, 742] (by decide +kernel) (by decide +kernel)
set_option maxRecDepth 20000 in
theorem wl_5 : GoodIn lw_tbl wsL_law_r5 := goodIn_r _ [747, 748, 750, 751, 757, 760, 761, 762, 766, 768, 769, 770, 771, 773, 774, 743, 745, 17, 746, 758, 759, 753, 756, 320] (by decide +kernel) (by decide +kernel)
set_option maxRecDepth 20000 in
theorem wl_6 : GoodIn lw_tbl wsL_law_r6 := goodIn_r _ [321, 322, 323, 327, 332, 67, 324, 325, 326, 328, 329, 330, 331, 66, 333, 334, 335, 336, 337, 832, 833, 834, 835, 836] (by decide +kernel) (by decide +kernel)
set_option maxRecDepth 20000 in
theorem wl_7 : GoodIn lw_tbl wsL_law_r7 := goodIn_r _ [840, 752, 841, 837, 838, 839, 338, 339, 340, 341, 79, 76, 69, 74, 71, 73, 156, 131, 342, 343, 344, 345, 80, 81] (by decide +kernel) (by decide +kernel)
set_option maxRecDepth 20000 in
theorem wl_8 : GoodIn lw_tbl wsL_law_r8 := goodIn_r _ [75, 77, 346, 347, 349, 0, 350, 351, 353, 1, 354, 355, 357, 2, 358, 359, 360, 361, 362, 364, 3, 365, 366, 368] (by decide +kernel) (by decide +kernel)
set_option maxRecDepth 20000 in
theorem wl_9 : GoodIn lw_tbl wsL_law_r9 := goodIn_r _ [4, 369, 370, 372, 5, 373, 374, 376, 6, 377, 378, 379, 380, 382, 384, 7, 385, 386, 388, 8, 389, 390, 392, 394] (by decide +kernel) (by decide +kernel)
set_option maxRecDepth 20000 in
theorem wl_10 : GoodIn lw_tbl wsL_law_r10 := goodIn_r _ [396, 398, 399, 400, 401, 402, 403, 404, 405, 160, 406, 407, 408, 409, 410, 411, 50, 412, 129, 132, 413, 414, 415, 416] (by decide +kernel) (by decide +kernel)
set_option maxRecDepth 20000 in
theorem wl_11 : GoodIn lw_tbl wsL_law_r11 := goodIn_r _ [180, 182, 842, 843, 844, 845, 749, 767, 772, 846, 848, 18, 849, 754, 850, 852, 19, 853, 854, 856, 20, 857, 858, 860] (by decide +kernel) (by decide +kernel)
set_option maxRecDepth 20000 in
theorem wl_12 : GoodIn lw_tbl wsL_law_r12 := goodIn_r _ [21, 861, 862, 864, 22, 865, 866, 868, 23, 869, 755, 870, 872, 24, 873, 874, 875, 876, 878, 25, 879, 880, 882, 26] (by decide +kernel) (by decide +kernel)
set_option maxRecDepth 20000 in
theorem wl_13 : GoodIn lw_tbl wsL_law_r13 := goodIn_r _ [883, 417, 418, 419, 420, 884, 885, 886, 887, 421, 422, 423, 424, 113, 161, 159, 133, 181, 183, 425, 426, 427, 428, 429] (by decide +kernel) (by decide +kernel)
set_option maxRecDepth 20000 in
theorem wl_14 : GoodIn lw_tbl wsL_law_r14 := goodIn_r _ [430, 431, 432, 433, 434, 435, 436, 437, 438, 439, 441, 9, 442, 443, 444, 445, 446, 447, 448, 449, 450, 451, 452, 453] (by decide +kernel) (by decide +kernel)
set_option maxRecDepth 20000 in
theorem wl_15 : GoodIn lw_tbl wsL_law_r15 := goodIn_r _ [454, 455, 888, 889, 890, 891, 904, 892, 894, 27, 895, 896, 898, 28, 899, 900, 902, 29, 903, 456, 457, 458, 459, 464] (by decide +kernel) (by decide +kernel)
set_option maxRecDepth 20000 in
theorem wl_16 : GoodIn lw_tbl wsL_law_r16 := goodIn_r _ [136, 140, 142, 460, 461, 462, 463, 905, 906, 907, 908, 913, 909, 911, 30, 912, 465, 466, 467, 468, 469, 470, 471, 914] (by decide +kernel) (by decide +kernel)
set_option maxRecDepth 20000 in
theorem wl_17 : GoodIn lw_tbl wsL_law_r17 := goodIn_r _ [915, 916, 917, 918, 919, 920, 921, 472, 473, 474, 475, 476, 477, 478, 479, 480, 481, 482, 483, 484, 486, 10, 487, 488] (by decide +kernel) (by decide +kernel)
set_option maxRecDepth 20000 in
theorem wl_18 : GoodIn lw_tbl wsL_law_r18 := goodIn_r _ [489, 490, 491, 492, 493, 494, 495, 496, 497, 498, 499, 500, 501, 502, 922, 923, 924, 925, 926, 927, 929, 31, 930, 931] (by decide +kernel) (by decide +kernel)
set_option maxRecDepth 20000 in
theorem wl_19 : GoodIn lw_tbl wsL_law_r19 := goodIn_r _ [933, 32, 934, 935, 937, 33, 938, 503, 504, 505, 506, 507, 508, 509, 510, 511, 512, 513, 514, 515, 939, 940, 941, 942] (by decide +kernel) (by decide +kernel)
set_option maxRecDepth 20000 in
theorem wl_20 : GoodIn lw_tbl wsL_law_r20 := goodIn_r _ [943, 944, 946, 34, 947, 516, 517, 518, 519, 948, 949, 950, 951, 520, 521, 522, 523, 527, 216, 524, 525, 526, 528, 530] (by decide +kernel) (by decide +kernel)
set_option maxRecDepth 20000 in
theorem wl_21 : GoodIn lw_tbl wsL_law_r21 := goodIn_r _ [11, 531, 532, 533, 534, 535, 536, 537, 538, 539, 214, 217, 219, 130, 135, 138, 540, 541, 542, 543, 544, 545, 546, 952] (by decide +kernel) (by decide +kernel)
set_option maxRecDepth 20000 in
theorem wl_22 : GoodIn lw_tbl wsL_law_r22 := goodIn_r _ [953, 954, 955, 960, 763, 956, 957, 958, 959, 961, 963, 35, 964, 764, 765, 547, 548, 549, 550, 551, 552, 553, 554, 555] (by decide +kernel) (by decide +kernel)
set_option maxRecDepth 20000 in
theorem wl_23 : GoodIn lw_tbl wsL_law_r23 := goodIn_r _ [557, 12, 558, 162, 559, 560, 561, 562, 563, 564, 965, 966, 967, 968, 969, 971, 36, 972, 973, 974, 975, 976, 565, 566] (by decide +kernel) (by decide +kernel)
set_option maxRecDepth 20000 in
theorem wl_24 : GoodIn lw_tbl wsL_law_r24 := goodIn_r _ [567, 568, 218, 977, 978, 979, 980, 981, 983, 37, 984, 985, 987, 38, 988, 569, 570, 571, 572, 989, 990, 991, 992, 573] (by decide +kernel) (by decide +kernel)
set_option maxRecDepth 20000 in
theorem wl_25 : GoodIn lw_tbl wsL_law_r25 := goodIn_r _ [574, 575, 576, 577, 578, 579, 580, 581, 582, 583, 993, 994, 995, 996, 584, 585, 586, 587, 997, 998, 999, 1000, 588, 589] (by decide +kernel) (by decide +kernel)
set_option maxRecDepth 20000 in
theorem wl_26 : GoodIn lw_tbl wsL_law_r26 := goodIn_r _ [590, 591, 220, 592, 593, 594, 595, 1001, 1002, 1003, 1004, 596, 597, 598, 599, 600, 601, 602, 603, 604, 606, 13, 607, 1005] (by decide +kernel) (by decide +kernel)
set_option maxRecDepth 20000 in
theorem wl_27 : GoodIn lw_tbl wsL_law_r27 := goodIn_r _ [1006, 1007, 1008, 608, 609, 610, 611, 245, 247, 612, 613, 614, 615, 155, 620, 250, 251, 158, 252, 253, 616, 617, 618, 619] (by decide +kernel) (by decide +kernel)
set_option maxRecDepth 20000 in
theorem wl_28 : GoodIn lw_tbl wsL_law_r28 := goodIn_r _ [621, 622, 623, 624, 625, 626, 254, 257, 258, 259, 639, 244, 246, 627, 628, 629, 630, 631, 632, 633, 634, 635, 636, 637] (by decide +kernel) (by decide +kernel)
set_option maxRecDepth 20000 in
theorem wl_29 : GoodIn lw_tbl wsL_law_r29 := goodIn_r _ [638, 640, 642, 14, 643, 648, 215, 644, 646, 15, 647, 649, 650, 651, 1009, 1010, 1011, 1012, 1013, 1014, 1015, 1017, 39, 1018] (by decide +kernel) (by decide +kernel)
set_option maxRecDepth 20000 in
theorem wl_30 : GoodIn lw_tbl wsL_law_r30 := goodIn_r _ [652, 653, 654, 655, 656, 657, 1019, 1020, 1021, 1022, 658, 659, 660, 661, 662, 663, 664, 665, 255, 256, 666, 667, 669, 16] (by decide +kernel) (by decide +kernel)
set_option maxRecDepth 20000 in
theorem wl_31 : GoodIn lw_tbl wsL_law_r31 := goodIn_r _ [670, 671, 672, 1023, 1024, 1025, 1026, 1027, 1028, 673, 674, 675, 676, 677, 678, 1029, 1030, 1031, 1032, 1033, 679, 680, 681, 682] (by decide +kernel) (by decide +kernel)
set_option maxRecDepth 20000 in
theorem wl_32 : GoodIn lw_tbl wsL_law_r32 := goodIn_r _ [683, 684, 685, 686, 1034, 1035, 1036, 1037, 1038, 687, 688, 689, 690, 691, 692, 693, 694, 695, 696, 697, 698, 1039, 1040, 1041] (by decide +kernel) (by decide +kernel)
set_option maxRecDepth 20000 in
theorem wl_33 : GoodIn lw_tbl wsL_law_r33 := goodIn_r _ [1042, 699, 700, 701, 702, 703, 704, 705, 706, 1043, 1044, 1045, 1046, 707, 708, 709, 710, 1047, 1048, 1049, 1050, 711, 712, 713] (by decide +kernel) (by decide +kernel)
set_option maxRecDepth 20000 in
theorem wl_34 : GoodIn lw_tbl wsL_law_r34 := goodIn_r _ [714, 715, 716, 717, 718, 139, 719, 1051, 1052, 1053, 1054, 720, 721, 722, 723, 163, 1055, 1056, 1057, 1058, 724, 725, 726, 727] (by decide +kernel) (by decide +kernel)
set_option maxRecDepth 20000 in
theorem wl_35 : GoodIn lw_tbl wsL_law_r35 := goodIn_r _ [728, 729, 730, 731, 732, 1059, 1060, 1061, 1062, 733, 734, 735, 736, 1063, 1064, 1065, 1066] (by decide +kernel) (by decide +kernel)
set_option maxRecDepth 20000 in
theorem wu_0 : GoodIn lw_tbl wsX00 := goodIn_r _ [114] (by decide +kernel) (by decide +kernel)
set_option maxRecDepth 20000 in
theorem wu_1 : GoodIn lw_tbl wsX10 := goodIn_r _ [190, 192, 194, 196, 198, 200, 202, 204] (by decide +kernel) (by decide +kernel)
set_option maxRecDepth 20000 in
theorem wu_2 : GoodIn lw_tbl wsX20 := goodIn_r _ [260, 262, 264, 266, 268, 270, 272, 274, 276, 278, 280, 282, 284, 286] (by decide +kernel) (by decide +kernel)
set_option maxRecDepth 20000 in
theorem wu_3 : GoodIn lw_tbl wsX30 := goodIn_r _ [82, 84, 86, 88, 90, 92, 94, 96, 98, 100] (by decide +kernel) (by decide +kernel)
set_option maxRecDepth 20000 in
theorem wu_4 : GoodIn lw_tbl wsX40 := goodIn_r _ [222, 224, 226, 228] (by decide +kernel) (by decide +kernel)
set_option maxRecDepth 20000 in
theorem wu_5 : GoodIn lw_tbl wsX50 := goodIn_r _ [164, 166, 168, 170] (by decide +kernel) (by decide +kernel)
set_option maxRecDepth 20000 in
theorem wu_6 : GoodIn lw_tbl wsX60 := goodIn_r _ [143, 145, 147, 149, 151] (by decide +kernel) (by decide +kernel)
set_option maxRecDepth 20000 in
theorem wu_7 : GoodIn lw_tbl wsX70 := goodIn_r _ [299, 301, 303, 305, 307, 309, 311, 313, 315, 317] (by decide +kernel) (by decide +kernel)
set_option maxRecDepth 20000 in
theorem wu_8 : GoodIn lw_tbl wsX80 := goodIn_r _ [775, 777, 779, 781, 783, 785, 787, 789, 791, 793, 795, 797, 799, 801, 803, 805, 807, 809, 811, 813, 815, 817, 819, 821, 823, 825, 827, 829] (by decide +kernel) (by decide +kernel)
