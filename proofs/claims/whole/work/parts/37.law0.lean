theorem mem_r {big ws : List Cond} (ps : List Nat) (hp : ws = ps.filterMap (fun i => big[i]?)) : ∀ w ∈ ws, w ∈ big := by
  intro w hw
  rw [hp] at hw
  obtain ⟨i, -, hi⟩ := List.mem_filterMap.mp hw
  exact List.mem_of_getElem? hi
set_option maxRecDepth 20000 in
theorem wl_r1 : ∀ w ∈ wsL_law0_r1, w ∈ lw_tbl := mem_r [60, 61, 39, 742, 743, 48, 1019, 62, 63, 64, 65, 66, 67, 68, 69, 40, 290, 147, 148, 42, 291, 163, 164, 43] (by decide +kernel)
set_option maxRecDepth 20000 in
theorem wl_r2 : ∀ w ∈ wsL_law0_r2, w ∈ lw_tbl := mem_r [292, 193, 194, 44, 293, 215, 216, 45, 294, 250, 251, 47, 295, 296, 297, 298, 299, 71, 72, 73, 123, 125, 74, 75] (by decide +kernel)
set_option maxRecDepth 20000 in
theorem wl_r3 : ∀ w ∈ wsL_law0_r3, w ∈ lw_tbl := mem_r [41, 128, 132, 136, 77, 78, 79, 80, 81, 82, 83, 84, 124, 86, 87, 89, 91, 93, 96, 150, 151, 152, 153, 155] (by decide +kernel)
set_option maxRecDepth 20000 in
theorem wl_r4 : ∀ w ∈ wsL_law0_r4, w ∈ lw_tbl := mem_r [166, 167, 168, 169, 170, 171, 172, 173, 174, 176, 196, 197, 198, 199, 200, 201, 202, 203, 217, 218, 219, 220, 228, 230] (by decide +kernel)
set_option maxRecDepth 20000 in
theorem wl_r5 : ∀ w ∈ wsL_law0_r5, w ∈ lw_tbl := mem_r [221, 222, 223, 224, 232, 234, 236, 225, 226, 46, 227, 253, 254, 255, 256, 258, 259, 261, 262, 263, 264, 265, 266, 267] (by decide +kernel)
set_option maxRecDepth 20000 in
theorem wl_r6 : ∀ w ∈ wsL_law0_r6, w ∈ lw_tbl := mem_r [744, 745, 746, 747, 748, 753, 755, 756, 757, 758, 759, 760, 761, 762, 763, 764, 767, 769, 770, 771, 778, 779, 780, 781] (by decide +kernel)
set_option maxRecDepth 20000 in
theorem wl_r7 : ∀ w ∈ wsL_law0_r7, w ∈ lw_tbl := mem_r [782, 788, 789, 790, 791, 321, 322, 323, 324, 325, 326, 327, 328, 885, 886, 887, 888, 750, 749, 329, 330, 331, 332, 333] (by decide +kernel)
set_option maxRecDepth 20000 in
theorem wl_r8 : ∀ w ∈ wsL_law0_r8, w ∈ lw_tbl := mem_r [334, 335, 336, 337, 889, 890, 891, 892, 893, 752, 338, 339, 340, 341, 342, 343, 344, 345, 346, 347, 348, 349, 350, 352] (by decide +kernel)
set_option maxRecDepth 20000 in
theorem wl_r9 : ∀ w ∈ wsL_law0_r9, w ∈ lw_tbl := mem_r [0, 353, 894, 895, 896, 897, 754, 751, 898, 900, 23, 901, 643, 644, 38, 645, 646, 647, 648, 649, 650, 651, 656, 52] (by decide +kernel)
set_option maxRecDepth 20000 in
theorem wl_r10 : ∀ w ∈ wsL_law0_r10, w ∈ lw_tbl := mem_r [722, 53, 652, 653, 654, 655, 738, 739, 740, 741, 902, 903, 904, 905, 906, 908, 24, 909, 881, 882, 883, 884, 354, 355] (by decide +kernel)
set_option maxRecDepth 20000 in
theorem wl_r11 : ∀ w ∈ wsL_law0_r11, w ∈ lw_tbl := mem_r [356, 357, 910, 911, 912, 913, 358, 359, 360, 361, 914, 915, 916, 917, 362, 363, 364, 365, 370, 366, 367, 368, 369, 918] (by decide +kernel)
set_option maxRecDepth 20000 in
theorem wl_r12 : ∀ w ∈ wsL_law0_r12, w ∈ lw_tbl := mem_r [919, 920, 921, 926, 922, 924, 25, 925, 371, 372, 373, 374, 375, 376, 377, 378, 379, 380, 382, 1, 383, 384, 385, 54] (by decide +kernel)
set_option maxRecDepth 20000 in
theorem wl_r13 : ∀ w ∈ wsL_law0_r13, w ∈ lw_tbl := mem_r [386, 387, 388, 389, 390, 927, 928, 929, 930, 391, 392, 393, 394, 395, 396, 397, 398, 931, 932, 933, 934, 399, 400, 401] (by decide +kernel)
set_option maxRecDepth 20000 in
theorem wl_r14 : ∀ w ∈ wsL_law0_r14, w ∈ lw_tbl := mem_r [402, 403, 404, 405, 406, 407, 408, 409, 410, 411, 412, 55, 413, 414, 415, 416, 935, 936, 937, 938, 417, 418, 419, 420] (by decide +kernel)
set_option maxRecDepth 20000 in
theorem wl_r15 : ∀ w ∈ wsL_law0_r15, w ∈ lw_tbl := mem_r [421, 422, 423, 424, 425, 426, 427, 428, 939, 940, 941, 942, 429, 430, 431, 432, 433, 434, 435, 436, 437, 438, 439, 441] (by decide +kernel)
set_option maxRecDepth 20000 in
theorem wl_r16 : ∀ w ∈ wsL_law0_r16, w ∈ lw_tbl := mem_r [2, 442, 443, 444, 445, 446, 448, 3, 449, 450, 452, 4, 453, 455, 457, 5, 458, 459, 460, 461, 56, 462, 1034, 463] (by decide +kernel)
set_option maxRecDepth 20000 in
theorem wl_r17 : ∀ w ∈ wsL_law0_r17, w ∈ lw_tbl := mem_r [464, 465, 466, 467, 1035, 469, 470, 471, 472, 473, 474, 475, 476, 477, 478, 57, 479, 480, 481, 482, 483, 485, 486, 58] (by decide +kernel)
set_option maxRecDepth 20000 in
theorem wl_r18 : ∀ w ∈ wsL_law0_r18, w ∈ lw_tbl := mem_r [487, 488, 489, 59, 490, 491, 492, 493, 494, 495, 496, 497, 498, 499, 500, 501, 503, 505, 507, 509, 6, 510, 511, 513] (by decide +kernel)
set_option maxRecDepth 20000 in
theorem wl_r19 : ∀ w ∈ wsL_law0_r19, w ∈ lw_tbl := mem_r [7, 514, 515, 517, 8, 518, 519, 521, 9, 522, 523, 525, 10, 526, 528, 530, 11, 531, 533, 535, 12, 536, 538, 540] (by decide +kernel)
set_option maxRecDepth 20000 in
theorem wl_r20 : ∀ w ∈ wsL_law0_r20, w ∈ lw_tbl := mem_r [13, 541, 542, 544, 14, 545, 943, 944, 945, 946, 772, 768, 773, 774, 776, 765, 766, 947, 949, 26, 950, 775, 951, 953] (by decide +kernel)
set_option maxRecDepth 20000 in
theorem wl_r21 : ∀ w ∈ wsL_law0_r21, w ∈ lw_tbl := mem_r [27, 954, 955, 957, 28, 958, 959, 961, 29, 962, 963, 965, 30, 966, 777, 967, 969, 31, 970, 971, 973, 32, 974, 547] (by decide +kernel)
set_option maxRecDepth 20000 in
theorem wl_r22 : ∀ w ∈ wsL_law0_r22, w ∈ lw_tbl := mem_r [548, 549, 550, 975, 976, 977, 978, 551, 552, 553, 554, 555, 556, 557, 558, 583, 559, 561, 15, 562, 563, 565, 16, 566] (by decide +kernel)
set_option maxRecDepth 20000 in
theorem wl_r23 : ∀ w ∈ wsL_law0_r23, w ∈ lw_tbl := mem_r [567, 568, 569, 570, 571, 573, 17, 574, 575, 577, 18, 578, 579, 580, 581, 582, 584, 586, 19, 587, 588, 590, 20, 591] (by decide +kernel)
set_option maxRecDepth 20000 in
theorem wl_r24 : ∀ w ∈ wsL_law0_r24, w ∈ lw_tbl := mem_r [592, 593, 595, 21, 596, 597, 598, 599, 600, 995, 996, 997, 998, 784, 785, 786, 783, 787, 999, 1001, 36, 1002, 983, 985] (by decide +kernel)
set_option maxRecDepth 20000 in
theorem wl_r25 : ∀ w ∈ wsL_law0_r25, w ∈ lw_tbl := mem_r [33, 986, 987, 989, 34, 990, 991, 993, 35, 994, 1003, 1005, 37, 1006, 601, 602, 603, 604, 605, 606, 607, 608, 1007, 1008] (by decide +kernel)
set_option maxRecDepth 20000 in
theorem wl_r26 : ∀ w ∈ wsL_law0_r26, w ∈ lw_tbl := mem_r [1009, 1010, 609, 610, 611, 612, 613, 614, 615, 616, 617, 618, 979, 980, 981, 982, 619, 620, 621, 622, 623, 624, 625, 626] (by decide +kernel)
set_option maxRecDepth 20000 in
theorem wl_r27 : ∀ w ∈ wsL_law0_r27, w ∈ lw_tbl := mem_r [627, 628, 629, 630, 1011, 1012, 1013, 1014, 631, 632, 633, 634, 635, 636, 637, 638, 639, 640, 641, 642, 1015, 1016, 1017, 1018] (by decide +kernel)
set_option maxRecDepth 20000 in
theorem inX0 : ∀ w ∈ wsX00, w ∈ lw_tbl := mem_r [204, 206, 208, 210, 212] (by decide +kernel)
set_option maxRecDepth 20000 in
theorem inX1 : ∀ w ∈ wsX10, w ∈ lw_tbl := mem_r [269, 271, 273, 275, 277, 279, 281, 283, 285, 287] (by decide +kernel)
set_option maxRecDepth 20000 in
theorem inX2 : ∀ w ∈ wsX20, w ∈ lw_tbl := mem_r [239, 241, 243, 245, 247] (by decide +kernel)
set_option maxRecDepth 20000 in
theorem inX3 : ∀ w ∈ wsX30, w ∈ lw_tbl := mem_r [100, 102, 104, 106, 108, 110, 112, 114, 116, 118, 120] (by decide +kernel)
set_option maxRecDepth 20000 in
theorem inX4 : ∀ w ∈ wsX40, w ∈ lw_tbl := mem_r [178, 180, 182, 184, 186, 188, 190] (by decide +kernel)
set_option maxRecDepth 20000 in
theorem inX5 : ∀ w ∈ wsX50, w ∈ lw_tbl := mem_r [158, 160] (by decide +kernel)
set_option maxRecDepth 20000 in
theorem inX6 : ∀ w ∈ wsX60, w ∈ lw_tbl := mem_r [138, 140, 142, 144] (by decide +kernel)
set_option maxRecDepth 20000 in
theorem inX7 : ∀ w ∈ wsX70, w ∈ lw_tbl := mem_r [300, 302, 304, 306, 308, 310, 312, 314, 316, 318] (by decide +kernel)
set_option maxRecDepth 20000 in
theorem inX8 : ∀ w ∈ wsX80, w ∈ lw_tbl := mem_r [792, 794, 796, 798, 800, 802, 804, 806, 808, 810, 812, 814, 816, 818, 820, 822, 824, 826, 828, 830, 832, 834, 836, 838, 840, 842, 844, 846, 848, 850, 852, 854, 856, 858, 860, 862, 864, 866, 868, 870, 872, 874, 876, 878] (by decide +kernel)
theorem wsL_law_in0 : ∀ w ∈ wsL_law0, w ∈ lw_tbl := List.forall_mem_append.mpr ⟨(List.forall_mem_append.mpr ⟨(List.forall_mem_append.mpr ⟨(List.forall_mem_append.mpr ⟨(List.forall_mem_append.mpr ⟨(List.forall_mem_append.mpr ⟨(List.forall_mem_append.mpr ⟨(List.forall_mem_append.mpr ⟨(List.forall_mem_append.mpr ⟨(List.forall_mem_append.mpr ⟨(List.forall_mem_append.mpr ⟨wl_r1, (List.forall_mem_append.mpr ⟨wl_r2, (List.forall_mem_append.mpr ⟨wl_r3, (List.forall_mem_append.mpr ⟨wl_r4, (List.forall_mem_append.mpr ⟨wl_r5, (List.forall_mem_append.mpr ⟨wl_r6, (List.forall_mem_append.mpr ⟨wl_r7, (List.forall_mem_append.mpr ⟨wl_r8, (List.forall_mem_append.mpr ⟨wl_r9, (List.forall_mem_append.mpr ⟨wl_r10, (List.forall_mem_append.mpr ⟨wl_r11, (List.forall_mem_append.mpr ⟨wl_r12, (List.forall_mem_append.mpr ⟨wl_r13, (List.forall_mem_append.mpr ⟨wl_r14, (List.forall_mem_append.mpr ⟨wl_r15, (List.forall_mem_append.mpr ⟨wl_r16, (List.forall_mem_append.mpr ⟨wl_r17, (List.forall_mem_append.mpr ⟨wl_r18, (List.forall_mem_append.mpr ⟨wl_r19, (List.forall_mem_append.mpr ⟨wl_r20, (List.forall_mem_append.mpr ⟨wl_r21, (List.forall_mem_append.mpr ⟨wl_r22, (List.forall_mem_append.mpr ⟨wl_r23, (List.forall_mem_append.mpr ⟨wl_r24, (List.forall_mem_append.mpr ⟨wl_r25, (List.forall_mem_append.mpr ⟨wl_r26, wl_r27⟩)⟩)⟩)⟩)⟩)⟩)⟩)⟩)⟩)⟩)⟩)⟩)⟩)⟩)⟩)⟩)⟩)⟩)⟩)⟩)⟩)⟩)⟩)⟩)⟩)⟩), inX7⟩), inX8⟩), inX6⟩), inX5⟩), inX4⟩), inX0⟩), inX2⟩), inX1⟩), inX3⟩), fun _ h => nomatch h⟩
