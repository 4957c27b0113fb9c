theorem mem_r {big : List Cond} (ws : List Cond) (ps : List Nat) (h : ws = ps.filterMap (fun i => big[i]?)) : ∀ w ∈ ws, w ∈ big := by
  intro w hw
  rw [h] at hw
  obtain ⟨i, -, hi⟩ := List.mem_filterMap.mp hw
  exact List.mem_of_getElem? hi
theorem mem_a {big a b : List Cond} (h1 : ∀ w ∈ a, w ∈ big) (h2 : ∀ w ∈ b, w ∈ big) : ∀ w ∈ a ++ b, w ∈ big := fun w h => (List.mem_append.mp h).elim (h1 w) (h2 w)
set_option maxRecDepth 100000 in
theorem in_wsL_law_r1 : ∀ w ∈ wsL_law_r1, w ∈ lw_tbl := mem_r _ [42, 43, 25, 699, 700, 35, 1046, 44, 45, 46, 47, 48, 49, 50, 51, 26, 268, 269, 174, 175, 31, 270, 220, 221] rfl
set_option maxRecDepth 100000 in
theorem in_wsL_law_r2 : ∀ w ∈ wsL_law_r2, w ∈ lw_tbl := mem_r _ [32, 271, 238, 239, 33, 272, 252, 253, 34, 273, 274, 275, 53, 54, 55, 56, 57, 27, 135, 70, 71, 28, 139, 89] rfl
set_option maxRecDepth 100000 in
theorem in_wsL_law_r3 : ∀ w ∈ wsL_law_r3, w ∈ lw_tbl := mem_r _ [90, 29, 142, 109, 110, 30, 146, 69, 149, 152, 155, 59, 60, 61, 62, 63, 73, 74, 75, 76, 80, 92, 93, 94] rfl
set_option maxRecDepth 100000 in
theorem in_wsL_law_r4 : ∀ w ∈ wsL_law_r4, w ∈ lw_tbl := mem_r _ [108, 95, 96, 98, 112, 113, 114, 115, 116, 119, 122, 177, 178, 179, 180, 181, 218, 182, 183, 184, 185, 186, 187, 219] rfl
set_option maxRecDepth 100000 in
theorem in_wsL_law_r5 : ∀ w ∈ wsL_law_r5, w ∈ lw_tbl := mem_r _ [188, 189, 190, 191, 223, 224, 225, 226, 228, 230, 241, 242, 243, 244, 245, 255, 256, 257, 258, 259, 260, 701, 702, 703] rfl
set_option maxRecDepth 100000 in
theorem in_wsL_law_r6 : ∀ w ∈ wsL_law_r6, w ∈ lw_tbl := mem_r _ [704, 705, 706, 713, 715, 717, 718, 719, 721, 722, 723, 726, 727, 728, 729, 730, 731, 732, 733, 734, 735, 736, 737, 738] rfl
set_option maxRecDepth 100000 in
theorem in_wsL_law_r7 : ∀ w ∈ wsL_law_r7, w ∈ lw_tbl := mem_r _ [740, 742, 743, 750, 752, 755, 293, 294, 295, 296, 300, 297, 298, 299, 301, 302, 303, 304, 305, 306, 307, 308, 309, 859] rfl
set_option maxRecDepth 100000 in
theorem in_wsL_law_r8 : ∀ w ∈ wsL_law_r8, w ∈ lw_tbl := mem_r _ [860, 861, 862, 870, 724, 863, 864, 865, 866, 867, 868, 869, 310, 311, 312, 313, 314, 315, 316, 317, 318, 319, 871, 872] rfl
set_option maxRecDepth 100000 in
theorem in_wsL_law_r9 : ∀ w ∈ wsL_law_r9, w ∈ lw_tbl := mem_r _ [873, 874, 875, 876, 878, 14, 879, 320, 321, 322, 323, 324, 325, 326, 327, 880, 881, 882, 883, 328, 329, 330, 331, 340] rfl
set_option maxRecDepth 100000 in
theorem in_wsL_law_r10 : ∀ w ∈ wsL_law_r10, w ∈ lw_tbl := mem_r _ [332, 333, 334, 335, 336, 337, 338, 339, 884, 885, 886, 887, 895, 888, 890, 15, 891, 892, 893, 894, 341, 342, 343, 344] rfl
set_option maxRecDepth 100000 in
theorem in_wsL_law_r11 : ∀ w ∈ wsL_law_r11, w ∈ lw_tbl := mem_r _ [345, 346, 347, 896, 897, 898, 899, 900, 901, 348, 349, 350, 351, 902, 903, 904, 905, 707, 352, 353, 354, 355, 906, 907] rfl
set_option maxRecDepth 100000 in
theorem in_wsL_law_r12 : ∀ w ∈ wsL_law_r12, w ∈ lw_tbl := mem_r _ [908, 909, 708, 356, 357, 358, 359, 360, 361, 362, 363, 364, 365, 366, 910, 911, 912, 913, 914, 915, 916, 367, 368, 369] rfl
set_option maxRecDepth 100000 in
theorem in_wsL_law_r13 : ∀ w ∈ wsL_law_r13, w ∈ lw_tbl := mem_r _ [370, 917, 918, 919, 920, 709, 371, 372, 373, 374, 375, 376, 377, 378, 921, 922, 923, 924, 925, 711, 379, 380, 381, 382] rfl
set_option maxRecDepth 100000 in
theorem in_wsL_law_r14 : ∀ w ∈ wsL_law_r14, w ∈ lw_tbl := mem_r _ [926, 927, 928, 929, 712, 383, 384, 385, 386, 387, 388, 389, 390, 930, 931, 932, 933, 714, 391, 392, 393, 394, 934, 935] rfl
set_option maxRecDepth 100000 in
theorem in_wsL_law_r15 : ∀ w ∈ wsL_law_r15, w ∈ lw_tbl := mem_r _ [936, 937, 395, 396, 397, 398, 399, 400, 401, 402, 403, 404, 406, 0, 407, 408, 409, 410, 411, 412, 413, 414, 415, 416] rfl
set_option maxRecDepth 100000 in
theorem in_wsL_law_r16 : ∀ w ∈ wsL_law_r16, w ∈ lw_tbl := mem_r _ [417, 419, 1, 420, 422, 423, 424, 426, 2, 427, 938, 939, 940, 941, 942, 710, 428, 429, 430, 431, 943, 944, 945, 946] rfl
set_option maxRecDepth 100000 in
theorem in_wsL_law_r17 : ∀ w ∈ wsL_law_r17, w ∈ lw_tbl := mem_r _ [432, 433, 434, 435, 947, 948, 949, 950, 436, 437, 438, 439, 440, 441, 442, 443, 444, 445, 446, 447, 448, 449, 450, 451] rfl
set_option maxRecDepth 100000 in
theorem in_wsL_law_r18 : ∀ w ∈ wsL_law_r18, w ∈ lw_tbl := mem_r _ [452, 454, 455, 457, 458, 459, 460, 461, 462, 463, 464, 465, 466, 467, 468, 469, 36, 470, 471, 473, 474, 475, 476, 477] rfl
set_option maxRecDepth 100000 in
theorem in_wsL_law_r19 : ∀ w ∈ wsL_law_r19, w ∈ lw_tbl := mem_r _ [478, 479, 482, 484, 3, 485, 489, 487, 488, 490, 492, 4, 493, 494, 495, 496, 497, 498, 500, 5, 501, 502, 503, 504] rfl
set_option maxRecDepth 100000 in
theorem in_wsL_law_r20 : ∀ w ∈ wsL_law_r20, w ∈ lw_tbl := mem_r _ [505, 506, 508, 6, 509, 511, 512, 513, 37, 514, 1048, 515, 516, 517, 518, 519, 1047, 521, 522, 38, 523, 524, 525, 526] rfl
set_option maxRecDepth 100000 in
theorem in_wsL_law_r21 : ∀ w ∈ wsL_law_r21, w ∈ lw_tbl := mem_r _ [527, 529, 530, 39, 531, 532, 533, 40, 534, 535, 536, 537, 538, 539, 540, 541, 542, 543, 544, 545, 547, 549, 552, 554] rfl
set_option maxRecDepth 100000 in
theorem in_wsL_law_r22 : ∀ w ∈ wsL_law_r22, w ∈ lw_tbl := mem_r _ [7, 555, 556, 558, 8, 559, 593, 560, 562, 9, 563, 564, 566, 567, 568, 569, 571, 572, 573, 574, 575, 576, 577, 578] rfl
set_option maxRecDepth 100000 in
theorem in_wsL_law_r23 : ∀ w ∈ wsL_law_r23, w ∈ lw_tbl := mem_r _ [579, 580, 582, 10, 583, 584, 585, 586, 587, 588, 589, 590, 591, 592, 951, 952, 953, 954, 955, 956, 957, 958, 959, 960] rfl
set_option maxRecDepth 100000 in
theorem in_wsL_law_r24 : ∀ w ∈ wsL_law_r24, w ∈ lw_tbl := mem_r _ [961, 962, 963, 965, 16, 966, 986, 1005, 967, 969, 17, 970, 725, 716, 971, 973, 18, 974, 975, 977, 19, 978, 979, 981] rfl
set_option maxRecDepth 100000 in
theorem in_wsL_law_r25 : ∀ w ∈ wsL_law_r25, w ∈ lw_tbl := mem_r _ [20, 982, 983, 984, 985, 987, 989, 21, 990, 991, 993, 22, 994, 995, 997, 23, 998, 999, 1000, 1001, 1002, 1003, 1004, 594] rfl
set_option maxRecDepth 100000 in
theorem in_wsL_law_r26 : ∀ w ∈ wsL_law_r26, w ∈ lw_tbl := mem_r _ [595, 596, 597, 1006, 1007, 1008, 1009, 598, 599, 600, 601, 602, 603, 604, 605, 606, 1010, 1011, 1012, 1013, 720, 607, 608, 609] rfl
set_option maxRecDepth 100000 in
theorem in_wsL_law_r27 : ∀ w ∈ wsL_law_r27, w ∈ lw_tbl := mem_r _ [610, 611, 612, 613, 614, 615, 616, 1014, 1015, 1016, 1017, 618, 619, 620, 621, 1018, 1019, 1020, 1021, 622, 623, 624, 625, 626] rfl
set_option maxRecDepth 100000 in
theorem in_wsL_law_r28 : ∀ w ∈ wsL_law_r28, w ∈ lw_tbl := mem_r _ [627, 628, 629, 630, 632, 11, 633, 634, 635, 636, 637, 638, 640, 12, 641, 642, 1022, 1023, 1024, 1025, 739, 647, 648, 649] rfl
set_option maxRecDepth 100000 in
theorem in_wsL_law_r29 : ∀ w ∈ wsL_law_r29, w ∈ lw_tbl := mem_r _ [650, 651, 1026, 1027, 1028, 1029, 652, 653, 654, 655, 656, 657, 658, 659, 660, 662, 13, 663, 1030, 1031, 1032, 1033, 665, 666] rfl
set_option maxRecDepth 100000 in
theorem in_wsL_law_r30 : ∀ w ∈ wsL_law_r30, w ∈ lw_tbl := mem_r _ [667, 668, 669, 670, 671, 672, 690, 679, 678, 41, 673, 674, 675, 676, 677, 680, 681, 682, 683, 684, 685, 686, 687, 688] rfl
set_option maxRecDepth 100000 in
theorem in_wsL_law_r31 : ∀ w ∈ wsL_law_r31, w ∈ lw_tbl := mem_r _ [689, 1034, 1035, 1036, 1037, 741, 744, 745, 746, 747, 748, 749, 751, 753, 754, 691, 692, 693, 694, 1038, 1039, 1040, 1041, 695] rfl
set_option maxRecDepth 100000 in
theorem in_wsL_law_r32 : ∀ w ∈ wsL_law_r32, w ∈ lw_tbl := mem_r _ [696, 697, 698, 1042, 1043, 1044, 1045] rfl
set_option maxRecDepth 100000 in
theorem inX0 : ∀ w ∈ wsX00, w ∈ lw_tbl := mem_r _ [84, 86] rfl
set_option maxRecDepth 100000 in
theorem inX1 : ∀ w ∈ wsX10, w ∈ lw_tbl := mem_r _ [261, 263, 265] rfl
set_option maxRecDepth 100000 in
theorem inX2 : ∀ w ∈ wsX20, w ∈ lw_tbl := mem_r _ [231, 233, 235] rfl
set_option maxRecDepth 100000 in
theorem inX3 : ∀ w ∈ wsX30, w ∈ lw_tbl := mem_r _ [159, 161, 163, 165, 167, 169, 171] rfl
set_option maxRecDepth 100000 in
theorem inX4 : ∀ w ∈ wsX40, w ∈ lw_tbl := mem_r _ [247, 249] rfl
set_option maxRecDepth 100000 in
theorem inX5 : ∀ w ∈ wsX50, w ∈ lw_tbl := mem_r _ [64, 66] rfl
set_option maxRecDepth 100000 in
theorem inX6 : ∀ w ∈ wsX60, w ∈ lw_tbl := mem_r _ [126, 128, 130, 132] rfl
set_option maxRecDepth 100000 in
theorem inX7 : ∀ w ∈ wsX70, w ∈ lw_tbl := mem_r _ [101, 103, 105] rfl
set_option maxRecDepth 100000 in
theorem inX8 : ∀ w ∈ wsX80, w ∈ lw_tbl := mem_r _ [193, 195, 197, 199, 201, 203, 205, 207, 209, 211, 213, 215] rfl
set_option maxRecDepth 100000 in
theorem inX9 : ∀ w ∈ wsX90, w ∈ lw_tbl := mem_r _ [276, 278, 280, 282, 284, 286, 288, 290] rfl
set_option maxRecDepth 100000 in
theorem inX10 : ∀ w ∈ wsX100, w ∈ lw_tbl := mem_r _ [756, 758, 760, 762, 764, 766, 768, 770, 772, 774, 776, 778, 780, 782, 784, 786, 788, 790, 792, 794, 796, 798, 800, 802, 804, 806, 808, 810, 812, 814, 816, 818, 820, 822, 824, 826, 828, 830, 832, 834, 836, 838, 840, 842, 844, 846, 848, 850, 852, 854, 856] rfl
theorem wsL_law_in : ∀ w ∈ wsL_law, w ∈ lw_tbl := (mem_a (mem_a (mem_a (mem_a (mem_a (mem_a (mem_a (mem_a (mem_a (mem_a (mem_a (mem_a (mem_a in_wsL_law_r1 (mem_a in_wsL_law_r2 (mem_a in_wsL_law_r3 (mem_a in_wsL_law_r4 (mem_a in_wsL_law_r5 (mem_a in_wsL_law_r6 (mem_a in_wsL_law_r7 (mem_a in_wsL_law_r8 (mem_a in_wsL_law_r9 (mem_a in_wsL_law_r10 (mem_a in_wsL_law_r11 (mem_a in_wsL_law_r12 (mem_a in_wsL_law_r13 (mem_a in_wsL_law_r14 (mem_a in_wsL_law_r15 (mem_a in_wsL_law_r16 (mem_a in_wsL_law_r17 (mem_a in_wsL_law_r18 (mem_a in_wsL_law_r19 (mem_a in_wsL_law_r20 (mem_a in_wsL_law_r21 (mem_a in_wsL_law_r22 (mem_a in_wsL_law_r23 (mem_a in_wsL_law_r24 (mem_a in_wsL_law_r25 (mem_a in_wsL_law_r26 (mem_a in_wsL_law_r27 (mem_a in_wsL_law_r28 (mem_a in_wsL_law_r29 (mem_a in_wsL_law_r30 (mem_a in_wsL_law_r31 in_wsL_law_r32))))))))))))))))))))))))))))))) inX9) inX10) inX3) inX8) inX2) inX4) inX1) inX5) inX0) inX7) inX6) (fun _ h => absurd h List.not_mem_nil))
