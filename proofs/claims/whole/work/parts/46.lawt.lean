/-! each word of the law's list stands among the words of the tables -/
theorem lw_ch {ws : List Cond} (ps : List Nat) (hp : ws = ps.filterMap (fun i => lw_tbl[i]?)) : ∀ w ∈ ws, w ∈ lw_tbl := by
  intro w hw
  rw [hp] at hw
  obtain ⟨i, -, hi⟩ := List.mem_filterMap.mp hw
  exact List.mem_of_getElem? hi
set_option maxRecDepth 200000 in
theorem lwc_1 : ∀ w ∈ wsL_law0_r1, w ∈ lw_tbl := lw_ch [59, 60, 47, 708, 709, 51, 962, 961, 61, 62, 63, 64, 65, 66, 67, 68, 48, 173, 82, 83, 49, 174, 175, 176] rfl
set_option maxRecDepth 200000 in
theorem lwc_2 : ∀ w ∈ wsL_law0_r2, w ∈ lw_tbl := lw_ch [179, 198, 180, 70, 71, 72, 81, 73, 85, 86, 87, 111, 113, 115, 117, 119, 122, 106, 132, 88, 89, 50, 137, 91] rfl
set_option maxRecDepth 200000 in
theorem lwc_3 : ∀ w ∈ wsL_law0_r3, w ∈ lw_tbl := lw_ch [92, 93, 94, 107, 109, 0, 110, 133, 710, 711, 712, 713, 715, 718, 719, 720, 721, 723, 724, 313, 314, 46, 315, 316] rfl
set_option maxRecDepth 200000 in
theorem lwc_4 : ∀ w ∈ wsL_law0_r4, w ∈ lw_tbl := lw_ch [317, 318, 319, 320, 321, 322, 55, 390, 56, 298, 299, 300, 408, 19, 409, 74, 752, 753, 754, 755, 756, 716, 757, 758] rfl
set_option maxRecDepth 200000 in
theorem lwc_5 : ∀ w ∈ wsL_law0_r5, w ∈ lw_tbl := lw_ch [759, 760, 762, 39, 763, 714, 748, 749, 750, 751, 199, 200, 201, 202, 764, 765, 766, 767, 203, 204, 205, 206, 209, 1] rfl
set_option maxRecDepth 200000 in
theorem lwc_6 : ∀ w ∈ wsL_law0_r6, w ∈ lw_tbl := lw_ch [210, 211, 213, 2, 214, 215, 217, 3, 218, 219, 220, 221, 222, 224, 4, 225, 226, 228, 5, 229, 768, 769, 770, 771] rfl
set_option maxRecDepth 200000 in
theorem lwc_7 : ∀ w ∈ wsL_law0_r7, w ∈ lw_tbl := lw_ch [717, 772, 774, 40, 775, 776, 778, 41, 779, 780, 782, 42, 783, 784, 786, 43, 787, 788, 410, 411, 412, 413, 414, 415] rfl
set_option maxRecDepth 200000 in
theorem lwc_8 : ∀ w ∈ wsL_law0_r8, w ∈ lw_tbl := lw_ch [416, 420, 20, 421, 121, 123, 125, 127, 129, 131, 135, 426, 21, 427, 430, 22, 431, 434, 23, 435, 95, 98, 436, 438] rfl
set_option maxRecDepth 200000 in
theorem lwc_9 : ∀ w ∈ wsL_law0_r9, w ∈ lw_tbl := lw_ch [24, 439, 177, 178, 789, 790, 791, 792, 722, 793, 794, 795, 440, 441, 442, 443, 444, 445, 446, 450, 25, 451, 452, 287] rfl
set_option maxRecDepth 200000 in
theorem lwc_10 : ∀ w ∈ wsL_law0_r10, w ∈ lw_tbl := lw_ch [14, 288, 289, 291, 15, 292, 796, 797, 798, 799, 800, 801, 802, 803, 453, 454, 455, 456, 457, 458, 459, 463, 26, 464] rfl
set_option maxRecDepth 200000 in
theorem lwc_11 : ∀ w ∈ wsL_law0_r11, w ∈ lw_tbl := lw_ch [804, 805, 806, 807, 808, 465, 466, 467, 468, 469, 470, 471, 272, 11, 273, 275, 276, 277, 279, 12, 280, 283, 13, 284] rfl
set_option maxRecDepth 200000 in
theorem lwc_12 : ∀ w ∈ wsL_law0_r12, w ∈ lw_tbl := lw_ch [305, 307, 17, 308, 295, 16, 296, 297, 809, 810, 811, 812, 813, 814, 815, 816, 817, 818, 819, 820, 821, 822, 823, 824] rfl
set_option maxRecDepth 200000 in
theorem lwc_13 : ∀ w ∈ wsL_law0_r13, w ∈ lw_tbl := lw_ch [825, 826, 827, 828, 829, 830, 831, 832, 473, 474, 475, 476, 477, 478, 479, 234, 236, 6, 237, 249, 250, 57, 251, 238] rfl
set_option maxRecDepth 200000 in
theorem lwc_14 : ∀ w ∈ wsL_law0_r14, w ∈ lw_tbl := lw_ch [239, 240, 243, 7, 244, 247, 8, 248, 483, 27, 484, 488, 263, 264, 265, 485, 486, 487, 491, 28, 492, 493, 494, 495] rfl
set_option maxRecDepth 200000 in
theorem lwc_15 : ∀ w ∈ wsL_law0_r15, w ∈ lw_tbl := lw_ch [496, 833, 834, 835, 836, 837, 839, 44, 840, 841, 842, 843, 497, 498, 499, 500, 501, 502, 503, 506, 29, 507, 508, 844] rfl
set_option maxRecDepth 200000 in
theorem lwc_16 : ∀ w ∈ wsL_law0_r16, w ∈ lw_tbl := lw_ch [845, 846, 847, 848, 849, 850, 509, 510, 511, 512, 513, 514, 515, 258, 10, 259, 260, 261, 262, 851, 852, 853, 854, 855] rfl
set_option maxRecDepth 200000 in
theorem lwc_17 : ∀ w ∈ wsL_law0_r17, w ∈ lw_tbl := lw_ch [856, 857, 858, 518, 519, 520, 521, 522, 523, 524, 526, 527, 531, 30, 532, 859, 860, 861, 862, 863, 864, 865, 866, 867] rfl
set_option maxRecDepth 200000 in
theorem lwc_18 : ∀ w ∈ wsL_law0_r18, w ∈ lw_tbl := lw_ch [868, 869, 870, 533, 534, 535, 536, 537, 538, 539, 540, 545, 58, 543, 31, 544, 871, 872, 873, 874, 875, 876, 877, 561] rfl
set_option maxRecDepth 200000 in
theorem lwc_19 : ∀ w ∈ wsL_law0_r19, w ∈ lw_tbl := lw_ch [562, 563, 564, 565, 566, 567, 878, 879, 880, 881, 230, 231, 232, 233, 254, 9, 255, 256, 882, 883, 884, 885, 886, 887] rfl
set_option maxRecDepth 200000 in
theorem lwc_20 : ∀ w ∈ wsL_law0_r20, w ∈ lw_tbl := lw_ch [888, 571, 572, 573, 574, 575, 576, 577, 580, 32, 581, 582, 889, 890, 891, 892, 893, 894, 895, 583, 584, 585, 586, 587] rfl
set_option maxRecDepth 200000 in
theorem lwc_21 : ∀ w ∈ wsL_law0_r21, w ∈ lw_tbl := lw_ch [588, 589, 896, 897, 898, 899, 591, 592, 593, 594, 595, 596, 597, 599, 600, 601, 602, 900, 901, 902, 903, 904, 603, 604] rfl
set_option maxRecDepth 200000 in
theorem lwc_22 : ∀ w ∈ wsL_law0_r22, w ∈ lw_tbl := lw_ch [605, 606, 607, 608, 609, 309, 310, 311, 905, 906, 907, 908, 909, 910, 911, 611, 612, 613, 614, 615, 616, 617, 912, 913] rfl
set_option maxRecDepth 200000 in
theorem lwc_23 : ∀ w ∈ wsL_law0_r23, w ∈ lw_tbl := lw_ch [914, 915, 266, 267, 268, 269, 916, 917, 918, 919, 301, 302, 303, 304, 312, 920, 921, 922, 923, 618, 619, 620, 621, 622] rfl
set_option maxRecDepth 200000 in
theorem lwc_24 : ∀ w ∈ wsL_law0_r24, w ∈ lw_tbl := lw_ch [623, 624, 924, 925, 926, 927, 629, 630, 631, 632, 633, 634, 635, 928, 929, 930, 931, 932, 637, 638, 639, 640, 641, 642] rfl
set_option maxRecDepth 200000 in
theorem lwc_25 : ∀ w ∈ wsL_law0_r25, w ∈ lw_tbl := lw_ch [643, 933, 934, 935, 936, 645, 646, 647, 648, 649, 650, 651, 656, 653, 654, 655, 658, 660, 33, 661, 662, 664, 34, 665] rfl
set_option maxRecDepth 200000 in
theorem lwc_26 : ∀ w ∈ wsL_law0_r26, w ∈ lw_tbl := lw_ch [666, 668, 35, 669, 670, 672, 36, 673, 674, 676, 37, 677, 937, 938, 939, 940, 941, 942, 943, 945, 45, 946, 678, 679] rfl
set_option maxRecDepth 200000 in
theorem lwc_27 : ∀ w ∈ wsL_law0_r27, w ∈ lw_tbl := lw_ch [680, 681, 682, 683, 684, 686, 687, 688, 690, 38, 691, 947, 948, 949, 950, 951, 952, 692, 693, 694, 695, 696, 697, 698] rfl
set_option maxRecDepth 200000 in
theorem lwc_28 : ∀ w ∈ wsL_law0_r28, w ∈ lw_tbl := lw_ch [953, 954, 955, 956, 700, 701, 702, 703, 704, 705, 706, 957, 958, 959, 960] rfl
set_option maxRecDepth 200000 in
theorem inX0 : ∀ w ∈ wsX00, w ∈ lw_tbl := lw_ch [99, 101, 103] rfl
set_option maxRecDepth 200000 in
theorem inX1 : ∀ w ∈ wsX10, w ∈ lw_tbl := lw_ch [139, 141, 143, 145, 147, 149, 151, 153, 155, 157, 159, 161, 163, 165, 167, 169] rfl
set_option maxRecDepth 200000 in
theorem inX2 : ∀ w ∈ wsX20, w ∈ lw_tbl := lw_ch [76, 78] rfl
set_option maxRecDepth 200000 in
theorem inX3 : ∀ w ∈ wsX30, w ∈ lw_tbl := lw_ch [181, 183, 185, 187, 189, 191, 193, 195] rfl
set_option maxRecDepth 200000 in
theorem inX4 : ∀ w ∈ wsX40, w ∈ lw_tbl := lw_ch [725, 727, 729, 731, 733, 735, 737, 739, 741, 743, 745] rfl
theorem wsL_law_x0 : ∀ w ∈ (vx_atS RX3 45 "java/lang/IllegalArgumentException" ["java/lang/RuntimeException", "java/lang/Exception"]).filter goodWord, w ∈ lw_tbl := by decide +kernel
theorem wsL_law_x1 : ∀ w ∈ (vx_atS RX3 56 "java/lang/IllegalStateException" ["java/lang/RuntimeException", "java/lang/Exception"]).filter goodWord, w ∈ lw_tbl := by decide +kernel
theorem wsL_law_x2 : ∀ w ∈ (vx_atS RX3 152 "java/lang/IndexOutOfBoundsException" ["java/lang/RuntimeException", "java/lang/Exception"]).filter goodWord, w ∈ lw_tbl := by decide +kernel
theorem wsL_law_in0 : ∀ w ∈ wsL_law0, w ∈ lw_tbl := List.forall_mem_append.mpr ⟨List.forall_mem_append.mpr ⟨List.forall_mem_append.mpr ⟨List.forall_mem_append.mpr ⟨List.forall_mem_append.mpr ⟨List.forall_mem_append.mpr ⟨List.forall_mem_append.mpr ⟨lwc_1, List.forall_mem_append.mpr ⟨lwc_2, List.forall_mem_append.mpr ⟨lwc_3, List.forall_mem_append.mpr ⟨lwc_4, List.forall_mem_append.mpr ⟨lwc_5, List.forall_mem_append.mpr ⟨lwc_6, List.forall_mem_append.mpr ⟨lwc_7, List.forall_mem_append.mpr ⟨lwc_8, List.forall_mem_append.mpr ⟨lwc_9, List.forall_mem_append.mpr ⟨lwc_10, List.forall_mem_append.mpr ⟨lwc_11, List.forall_mem_append.mpr ⟨lwc_12, List.forall_mem_append.mpr ⟨lwc_13, List.forall_mem_append.mpr ⟨lwc_14, List.forall_mem_append.mpr ⟨lwc_15, List.forall_mem_append.mpr ⟨lwc_16, List.forall_mem_append.mpr ⟨lwc_17, List.forall_mem_append.mpr ⟨lwc_18, List.forall_mem_append.mpr ⟨lwc_19, List.forall_mem_append.mpr ⟨lwc_20, List.forall_mem_append.mpr ⟨lwc_21, List.forall_mem_append.mpr ⟨lwc_22, List.forall_mem_append.mpr ⟨lwc_23, List.forall_mem_append.mpr ⟨lwc_24, List.forall_mem_append.mpr ⟨lwc_25, List.forall_mem_append.mpr ⟨lwc_26, List.forall_mem_append.mpr ⟨lwc_27, lwc_28⟩⟩⟩⟩⟩⟩⟩⟩⟩⟩⟩⟩⟩⟩⟩⟩⟩⟩⟩⟩⟩⟩⟩⟩⟩⟩⟩, inX3⟩, inX4⟩, inX2⟩, inX1⟩, inX0⟩, fun _ h => nomatch h⟩
theorem wsL_law_in : ∀ w ∈ wsL_law, w ∈ lw_tbl := List.forall_mem_append.mpr ⟨List.forall_mem_append.mpr ⟨List.forall_mem_append.mpr ⟨wsL_law_in0, wsL_law_x0⟩, wsL_law_x1⟩, wsL_law_x2⟩
