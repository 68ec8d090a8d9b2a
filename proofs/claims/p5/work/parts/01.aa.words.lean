theorem memIn_r {big ws : List Cond} (ps : List Nat) (hp : ws = ps.filterMap (fun i => big[i]?)) : ∀ w ∈ ws, w ∈ big := by
  intro w hw
  rw [hp] at hw
  obtain ⟨i, -, hi⟩ := List.mem_filterMap.mp hw
  exact List.mem_of_getElem? hi
theorem memIn_app {big a b : List Cond} (ha : ∀ w ∈ a, w ∈ big) (hb : ∀ w ∈ b, w ∈ big) : ∀ w ∈ a ++ b, w ∈ big := fun w h => (List.mem_append.mp h).elim (ha w) (hb w)
set_option maxRecDepth 20000 in
theorem in_wsL_law_r1 : ∀ w ∈ wsL_law_r1, w ∈ lw_tbl := memIn_r [63, 64, 51, 695, 696, 59, 65, 66, 67, 68, 69, 70, 71, 72, 52, 215, 216, 217, 119, 120, 54, 218, 132, 133] (by decide +kernel)
set_option maxRecDepth 20000 in
theorem in_wsL_law_r2 : ∀ w ∈ wsL_law_r2, w ∈ lw_tbl := memIn_r [55, 219, 163, 164, 56, 220, 179, 180, 57, 221, 198, 199, 58, 222, 73, 74, 75, 76, 117, 80, 81, 82, 83, 84] (by decide +kernel)
set_option maxRecDepth 20000 in
theorem in_wsL_law_r3 : ∀ w ∈ wsL_law_r3, w ∈ lw_tbl := memIn_r [85, 86, 88, 77, 78, 53, 79, 122, 123, 124, 125, 135, 136, 137, 166, 167, 168, 169, 170, 182, 183, 184, 185, 186] (by decide +kernel)
set_option maxRecDepth 20000 in
theorem in_wsL_law_r4 : ∀ w ∈ wsL_law_r4, w ∈ lw_tbl := memIn_r [187, 201, 202, 203, 214, 204, 205, 206, 697, 698, 699, 700, 701, 702, 703, 704, 705, 710, 711, 713, 715, 716, 717, 719] (by decide +kernel)
set_option maxRecDepth 20000 in
theorem in_wsL_law_r5 : ∀ w ∈ wsL_law_r5, w ∈ lw_tbl := memIn_r [725, 726, 727, 728, 729, 804, 730, 731, 732, 706, 240, 241, 242, 243, 244, 245, 246, 247, 248, 249, 250, 251, 252, 253] (by decide +kernel)
set_option maxRecDepth 20000 in
theorem in_wsL_law_r6 : ∀ w ∈ wsL_law_r6, w ∈ lw_tbl := memIn_r [255, 256, 257, 258, 805, 806, 807, 808, 816, 809, 810, 811, 812, 813, 814, 815, 259, 260, 261, 262, 263, 264, 265, 266] (by decide +kernel)
set_option maxRecDepth 20000 in
theorem in_wsL_law_r7 : ∀ w ∈ wsL_law_r7, w ∈ lw_tbl := memIn_r [267, 268, 269, 271, 272, 273, 274, 817, 818, 819, 820, 821, 822, 823, 275, 276, 277, 278, 279, 280, 281, 282, 283, 284] (by decide +kernel)
set_option maxRecDepth 20000 in
theorem in_wsL_law_r8 : ∀ w ∈ wsL_law_r8, w ∈ lw_tbl := memIn_r [285, 286, 287, 288, 289, 824, 825, 826, 827, 828, 290, 291, 292, 293, 294, 295, 296, 297, 299, 300, 301, 302, 829, 830] (by decide +kernel)
set_option maxRecDepth 20000 in
theorem in_wsL_law_r9 : ∀ w ∈ wsL_law_r9, w ∈ lw_tbl := memIn_r [831, 832, 833, 834, 835, 303, 304, 305, 306, 307, 308, 309, 310, 126, 312, 313, 314, 315, 836, 837, 838, 839, 840, 841] (by decide +kernel)
set_option maxRecDepth 20000 in
theorem in_wsL_law_r10 : ∀ w ∈ wsL_law_r10, w ∈ lw_tbl := memIn_r [714, 316, 317, 318, 319, 320, 321, 322, 323, 842, 843, 844, 845, 324, 325, 326, 327, 328, 329, 330, 331, 332, 333, 334] (by decide +kernel)
set_option maxRecDepth 20000 in
theorem in_wsL_law_r11 : ∀ w ∈ wsL_law_r11, w ∈ lw_tbl := memIn_r [335, 336, 337, 338, 339, 340, 341, 342, 343, 344, 345, 346, 347, 846, 847, 848, 849, 718, 850, 852, 14, 853, 864, 865] (by decide +kernel)
set_option maxRecDepth 20000 in
theorem in_wsL_law_r12 : ∀ w ∈ wsL_law_r12, w ∈ lw_tbl := memIn_r [866, 854, 856, 15, 857, 858, 859, 860, 862, 16, 863, 348, 349, 350, 351, 352, 353, 354, 355, 138, 140, 142, 144, 146] (by decide +kernel)
set_option maxRecDepth 20000 in
theorem in_wsL_law_r13 : ∀ w ∈ wsL_law_r13, w ∈ lw_tbl := memIn_r [148, 356, 357, 358, 359, 360, 361, 363, 362, 60, 87, 89, 90, 91, 364, 365, 366, 367, 368, 369, 370, 371, 372, 373] (by decide +kernel)
set_option maxRecDepth 20000 in
theorem in_wsL_law_r14 : ∀ w ∈ wsL_law_r14, w ∈ lw_tbl := memIn_r [374, 375, 376, 378, 0, 379, 380, 381, 382, 383, 384, 385, 386, 387, 388, 389, 390, 61, 391, 406, 407, 408, 392, 394] (by decide +kernel)
set_option maxRecDepth 20000 in
theorem in_wsL_law_r15 : ∀ w ∈ wsL_law_r15, w ∈ lw_tbl := memIn_r [1, 395, 396, 397, 398, 399, 400, 401, 402, 403, 404, 405, 409, 410, 867, 868, 869, 870, 871, 720, 721, 722, 872, 874] (by decide +kernel)
set_option maxRecDepth 20000 in
theorem in_wsL_law_r16 : ∀ w ∈ wsL_law_r16, w ∈ lw_tbl := memIn_r [17, 875, 876, 878, 18, 879, 707, 708, 709, 880, 881, 883, 19, 884, 723, 724, 885, 887, 20, 888, 889, 891, 21, 892] (by decide +kernel)
set_option maxRecDepth 20000 in
theorem in_wsL_law_r17 : ∀ w ∈ wsL_law_r17, w ∈ lw_tbl := memIn_r [893, 895, 22, 896, 897, 899, 23, 900, 901, 903, 24, 904, 905, 906, 907, 908, 910, 25, 911, 912, 914, 26, 915, 916] (by decide +kernel)
set_option maxRecDepth 20000 in
theorem in_wsL_law_r18 : ∀ w ∈ wsL_law_r18, w ∈ lw_tbl := memIn_r [918, 27, 919, 920, 922, 28, 923, 411, 412, 413, 414, 415, 416, 417, 418, 419, 924, 925, 926, 927, 928, 930, 29, 931] (by decide +kernel)
set_option maxRecDepth 20000 in
theorem in_wsL_law_r19 : ∀ w ∈ wsL_law_r19, w ∈ lw_tbl := memIn_r [420, 421, 422, 423, 424, 932, 933, 934, 935, 936, 937, 939, 30, 940, 425, 426, 427, 428, 429, 430, 431, 432, 941, 942] (by decide +kernel)
set_option maxRecDepth 20000 in
theorem in_wsL_law_r20 : ∀ w ∈ wsL_law_r20, w ∈ lw_tbl := memIn_r [943, 944, 945, 947, 31, 948, 433, 434, 435, 436, 949, 950, 951, 952, 437, 438, 439, 440, 441, 953, 954, 955, 956, 442] (by decide +kernel)
set_option maxRecDepth 20000 in
theorem in_wsL_law_r21 : ∀ w ∈ wsL_law_r21, w ∈ lw_tbl := memIn_r [443, 444, 445, 446, 447, 448, 449, 450, 451, 453, 2, 454, 455, 457, 3, 458, 460, 461, 462, 463, 464, 465, 466, 467] (by decide +kernel)
set_option maxRecDepth 20000 in
theorem in_wsL_law_r22 : ∀ w ∈ wsL_law_r22, w ∈ lw_tbl := memIn_r [468, 957, 958, 959, 960, 961, 963, 32, 964, 469, 470, 471, 472, 473, 474, 475, 476, 171, 477, 478, 479, 481, 4, 482] (by decide +kernel)
set_option maxRecDepth 20000 in
theorem in_wsL_law_r23 : ∀ w ∈ wsL_law_r23, w ∈ lw_tbl := memIn_r [485, 483, 484, 486, 488, 5, 489, 492, 494, 6, 495, 497, 498, 499, 500, 62, 501, 502, 503, 504, 505, 965, 966, 967] (by decide +kernel)
set_option maxRecDepth 20000 in
theorem in_wsL_law_r24 : ∀ w ∈ wsL_law_r24, w ∈ lw_tbl := memIn_r [968, 969, 970, 972, 33, 973, 974, 976, 34, 977, 978, 980, 35, 981, 982, 983, 984, 506, 507, 508, 509, 510, 511, 512] (by decide +kernel)
set_option maxRecDepth 20000 in
theorem in_wsL_law_r25 : ∀ w ∈ wsL_law_r25, w ∈ lw_tbl := memIn_r [513, 514, 516, 7, 517, 518, 520, 8, 521, 985, 986, 987, 988, 989, 991, 36, 992, 993, 995, 37, 996, 522, 523, 524] (by decide +kernel)
set_option maxRecDepth 20000 in
theorem in_wsL_law_r26 : ∀ w ∈ wsL_law_r26, w ∈ lw_tbl := memIn_r [525, 526, 527, 528, 529, 530, 531, 532, 533, 535, 536, 537, 538, 539, 540, 997, 998, 999, 1000, 1001, 1002, 1004, 38, 1005] (by decide +kernel)
set_option maxRecDepth 20000 in
theorem in_wsL_law_r27 : ∀ w ∈ wsL_law_r27, w ∈ lw_tbl := memIn_r [1006, 1008, 39, 1009, 541, 542, 543, 544, 545, 546, 547, 548, 550, 551, 552, 553, 1010, 1011, 1012, 1013, 1014, 712, 554, 555] (by decide +kernel)
set_option maxRecDepth 20000 in
theorem in_wsL_law_r28 : ∀ w ∈ wsL_law_r28, w ∈ lw_tbl := memIn_r [556, 557, 558, 559, 560, 561, 1015, 1016, 1017, 1018, 562, 563, 564, 565, 566, 567, 568, 569, 188, 570, 572, 9, 573, 574] (by decide +kernel)
set_option maxRecDepth 20000 in
theorem in_wsL_law_r29 : ∀ w ∈ wsL_law_r29, w ∈ lw_tbl := memIn_r [575, 577, 10, 578, 579, 580, 581, 582, 583, 584, 586, 11, 587, 590, 591, 592, 593, 594, 595, 596, 597, 598, 599, 600] (by decide +kernel)
set_option maxRecDepth 20000 in
theorem in_wsL_law_r30 : ∀ w ∈ wsL_law_r30, w ∈ lw_tbl := memIn_r [601, 1019, 1020, 1021, 1022, 1023, 1025, 40, 1026, 1027, 602, 603, 604, 605, 606, 607, 608, 609, 610, 611, 612, 613, 616, 614] (by decide +kernel)
set_option maxRecDepth 20000 in
theorem in_wsL_law_r31 : ∀ w ∈ wsL_law_r31, w ∈ lw_tbl := memIn_r [615, 617, 1028, 1029, 1030, 1031, 1032, 1034, 41, 1035, 618, 619, 620, 621, 622, 623, 624, 625, 626, 627, 629, 12, 630, 631] (by decide +kernel)
set_option maxRecDepth 20000 in
theorem in_wsL_law_r32 : ∀ w ∈ wsL_law_r32, w ∈ lw_tbl := memIn_r [632, 633, 634, 635, 636, 637, 638, 639, 640, 641, 1036, 1037, 1038, 1039, 1043, 1040, 1041, 1042, 1044, 1046, 42, 1047, 1048, 1049] (by decide +kernel)
set_option maxRecDepth 20000 in
theorem in_wsL_law_r33 : ∀ w ∈ wsL_law_r33, w ∈ lw_tbl := memIn_r [1050, 642, 643, 644, 645, 646, 647, 648, 649, 651, 653, 13, 654, 1051, 1052, 1053, 1054, 1055, 1056, 1058, 43, 1059, 1060, 1062] (by decide +kernel)
set_option maxRecDepth 20000 in
theorem in_wsL_law_r34 : ∀ w ∈ wsL_law_r34, w ∈ lw_tbl := memIn_r [44, 1063, 655, 656, 657, 658, 659, 660, 661, 662, 663, 664, 665, 666, 667, 668, 669, 670, 671, 672, 673, 674, 675, 676] (by decide +kernel)
set_option maxRecDepth 20000 in
theorem in_wsL_law_r35 : ∀ w ∈ wsL_law_r35, w ∈ lw_tbl := memIn_r [677, 678, 679, 680, 681, 682, 1064, 1065, 1066, 1067, 1068, 1069, 1070, 1071, 1072, 1073, 1074, 1076, 45, 1077, 1078, 1080, 46, 1081] (by decide +kernel)
set_option maxRecDepth 20000 in
theorem in_wsL_law_r36 : ∀ w ∈ wsL_law_r36, w ∈ lw_tbl := memIn_r [683, 684, 685, 686, 1082, 1083, 1084, 1085, 733, 734, 1086, 1088, 47, 1089, 1090, 1092, 48, 1093, 1094, 1096, 49, 1097, 687, 688] (by decide +kernel)
set_option maxRecDepth 20000 in
theorem in_wsL_law_r37 : ∀ w ∈ wsL_law_r37, w ∈ lw_tbl := memIn_r [689, 690, 1098, 1099, 1100, 1101, 691, 692, 693, 694, 1102, 1103, 1104, 1105, 1106, 1107, 1108, 1109, 1110] (by decide +kernel)
set_option maxRecDepth 20000 in
theorem in_wsX00 : ∀ w ∈ wsX00, w ∈ lw_tbl := memIn_r [207, 209, 211] (by decide +kernel)
set_option maxRecDepth 20000 in
theorem in_wsX10 : ∀ w ∈ wsX10, w ∈ lw_tbl := memIn_r [92, 94, 96, 98, 100, 102, 104, 106, 108, 110, 112, 114] (by decide +kernel)
set_option maxRecDepth 20000 in
theorem in_wsX20 : ∀ w ∈ wsX20, w ∈ lw_tbl := memIn_r [150, 152, 154, 156, 158, 160] (by decide +kernel)
set_option maxRecDepth 20000 in
theorem in_wsX30 : ∀ w ∈ wsX30, w ∈ lw_tbl := memIn_r [127, 129] (by decide +kernel)
set_option maxRecDepth 20000 in
theorem in_wsX40 : ∀ w ∈ wsX40, w ∈ lw_tbl := memIn_r [189, 191, 193, 195] (by decide +kernel)
set_option maxRecDepth 20000 in
theorem in_wsX50 : ∀ w ∈ wsX50, w ∈ lw_tbl := memIn_r [172, 174, 176] (by decide +kernel)
set_option maxRecDepth 20000 in
theorem in_wsX60 : ∀ w ∈ wsX60, w ∈ lw_tbl := memIn_r [223, 225, 227, 229, 231, 233, 235, 237] (by decide +kernel)
set_option maxRecDepth 20000 in
theorem in_wsX70 : ∀ w ∈ wsX70, w ∈ lw_tbl := memIn_r [735, 737, 739, 741, 743, 745, 747, 749, 751, 753, 755, 757, 759, 761, 763, 765, 767, 769, 771, 773, 775, 777, 779, 781, 783, 785, 787, 789, 791, 793, 795, 797, 799, 801] (by decide +kernel)
theorem wsL_law_in : ∀ w ∈ wsL_law, w ∈ lw_tbl := (memIn_app (memIn_app (memIn_app (memIn_app (memIn_app (memIn_app (memIn_app (memIn_app (memIn_app (memIn_app in_wsL_law_r1 (memIn_app in_wsL_law_r2 (memIn_app in_wsL_law_r3 (memIn_app in_wsL_law_r4 (memIn_app in_wsL_law_r5 (memIn_app in_wsL_law_r6 (memIn_app in_wsL_law_r7 (memIn_app in_wsL_law_r8 (memIn_app in_wsL_law_r9 (memIn_app in_wsL_law_r10 (memIn_app in_wsL_law_r11 (memIn_app in_wsL_law_r12 (memIn_app in_wsL_law_r13 (memIn_app in_wsL_law_r14 (memIn_app in_wsL_law_r15 (memIn_app in_wsL_law_r16 (memIn_app in_wsL_law_r17 (memIn_app in_wsL_law_r18 (memIn_app in_wsL_law_r19 (memIn_app in_wsL_law_r20 (memIn_app in_wsL_law_r21 (memIn_app in_wsL_law_r22 (memIn_app in_wsL_law_r23 (memIn_app in_wsL_law_r24 (memIn_app in_wsL_law_r25 (memIn_app in_wsL_law_r26 (memIn_app in_wsL_law_r27 (memIn_app in_wsL_law_r28 (memIn_app in_wsL_law_r29 (memIn_app in_wsL_law_r30 (memIn_app in_wsL_law_r31 (memIn_app in_wsL_law_r32 (memIn_app in_wsL_law_r33 (memIn_app in_wsL_law_r34 (memIn_app in_wsL_law_r35 (memIn_app in_wsL_law_r36 in_wsL_law_r37)))))))))))))))))))))))))))))))))))) in_wsX60) in_wsX70) in_wsX10) in_wsX30) in_wsX20) in_wsX50) in_wsX40) in_wsX00) (fun _ h => absurd h List.not_mem_nil))
theorem inlX0 : ∀ w ∈ wsX00, w ∈ wsL_law := fun _ h => List.mem_append_left _ (List.mem_append_right _ h)
theorem inX0 : ∀ w ∈ wsX00, w ∈ lw_tbl := fun w h => wsL_law_in w (inlX0 w h)
theorem inlX1 : ∀ w ∈ wsX10, w ∈ wsL_law := fun _ h => List.mem_append_left _ (List.mem_append_left _ (List.mem_append_left _ (List.mem_append_left _ (List.mem_append_left _ (List.mem_append_left _ (List.mem_append_right _ h))))))
theorem inX1 : ∀ w ∈ wsX10, w ∈ lw_tbl := fun w h => wsL_law_in w (inlX1 w h)
theorem inlX2 : ∀ w ∈ wsX20, w ∈ wsL_law := fun _ h => List.mem_append_left _ (List.mem_append_left _ (List.mem_append_left _ (List.mem_append_left _ (List.mem_append_right _ h))))
theorem inX2 : ∀ w ∈ wsX20, w ∈ lw_tbl := fun w h => wsL_law_in w (inlX2 w h)
theorem inlX3 : ∀ w ∈ wsX30, w ∈ wsL_law := fun _ h => List.mem_append_left _ (List.mem_append_left _ (List.mem_append_left _ (List.mem_append_left _ (List.mem_append_left _ (List.mem_append_right _ h)))))
theorem inX3 : ∀ w ∈ wsX30, w ∈ lw_tbl := fun w h => wsL_law_in w (inlX3 w h)
theorem inlX4 : ∀ w ∈ wsX40, w ∈ wsL_law := fun _ h => List.mem_append_left _ (List.mem_append_left _ (List.mem_append_right _ h))
theorem inX4 : ∀ w ∈ wsX40, w ∈ lw_tbl := fun w h => wsL_law_in w (inlX4 w h)
theorem inlX5 : ∀ w ∈ wsX50, w ∈ wsL_law := fun _ h => List.mem_append_left _ (List.mem_append_left _ (List.mem_append_left _ (List.mem_append_right _ h)))
theorem inX5 : ∀ w ∈ wsX50, w ∈ lw_tbl := fun w h => wsL_law_in w (inlX5 w h)
theorem inlX6 : ∀ w ∈ wsX60, w ∈ wsL_law := fun _ h => List.mem_append_left _ (List.mem_append_left _ (List.mem_append_left _ (List.mem_append_left _ (List.mem_append_left _ (List.mem_append_left _ (List.mem_append_left _ (List.mem_append_left _ (List.mem_append_right _ h))))))))
theorem inX6 : ∀ w ∈ wsX60, w ∈ lw_tbl := fun w h => wsL_law_in w (inlX6 w h)
theorem inlX7 : ∀ w ∈ wsX70, w ∈ wsL_law := fun _ h => List.mem_append_left _ (List.mem_append_left _ (List.mem_append_left _ (List.mem_append_left _ (List.mem_append_left _ (List.mem_append_left _ (List.mem_append_left _ (List.mem_append_right _ h)))))))
theorem inX7 : ∀ w ∈ wsX70, w ∈ lw_tbl := fun w h => wsL_law_in w (inlX7 w h)
theorem inJ6 : ∀ w ∈ wsJ60, w ∈ lw_tbl := by decide +kernel
theorem inJ9 : ∀ w ∈ wsJ90, w ∈ lw_tbl := by decide +kernel
theorem inJ10 : ∀ w ∈ wsJ100, w ∈ lw_tbl := by decide +kernel
theorem inJ7 : ∀ w ∈ wsJ70, w ∈ lw_tbl := by decide +kernel
abbrev vwCl : List vw_C := [(RX0, TX0, 3), (RX1, TX1, 12), (RX2, TX2, 6), (RX3, TX3, 2), (RX4, TX4, 4), (RX5, TX5, 3), (RX6, TX6, 8), (RX7, TX7, 34)]
