/-! each word of the law's list stands among the words of the tables -/
theorem lw_ch {ws : List Cond} (ps : List Nat) (hp : ws = ps.filterMap (fun i => lw_tbl[i]?)) : ∀ w ∈ ws, w ∈ lw_tbl := by
  intro w hw
  rw [hp] at hw
  obtain ⟨i, -, hi⟩ := List.mem_filterMap.mp hw
  exact List.mem_of_getElem? hi
set_option maxRecDepth 200000 in
theorem lwc_1 : ∀ w ∈ wsL_law0_r1, w ∈ lw_tbl := lw_ch [51, 52, 40, 345, 53, 54, 55, 56, 57, 58, 59, 60, 41, 165, 74, 75, 42, 166, 167, 168, 171, 190, 172, 62] rfl
set_option maxRecDepth 200000 in
theorem lwc_2 : ∀ w ∈ wsL_law0_r2, w ∈ lw_tbl := lw_ch [63, 64, 73, 65, 77, 78, 79, 103, 105, 107, 109, 111, 114, 98, 124, 80, 81, 43, 129, 83, 84, 85, 86, 99] rfl
set_option maxRecDepth 200000 in
theorem lwc_3 : ∀ w ∈ wsL_law0_r3, w ∈ lw_tbl := lw_ch [101, 0, 102, 125, 191, 192, 193, 194, 197, 1, 198, 66, 199, 201, 2, 202, 203, 205, 3, 206, 207, 208, 209, 210] rfl
set_option maxRecDepth 200000 in
theorem lwc_4 : ∀ w ∈ wsL_law0_r4, w ∈ lw_tbl := lw_ch [212, 4, 213, 214, 216, 5, 217, 218, 219, 39, 220, 221, 309, 222, 223, 224, 225, 229, 47, 226, 227, 228, 299, 7] rfl
set_option maxRecDepth 200000 in
theorem lwc_5 : ∀ w ∈ wsL_law0_r5, w ∈ lw_tbl := lw_ch [300, 113, 115, 117, 127, 119, 121, 123, 301, 303, 8, 304, 305, 307, 9, 308, 346, 347, 348, 349, 390, 350, 351, 352] rfl
set_option maxRecDepth 200000 in
theorem lwc_6 : ∀ w ∈ wsL_law0_r6, w ∈ lw_tbl := lw_ch [353, 358, 48, 384, 385, 49, 386, 387, 388, 389, 356, 12, 357, 374, 375, 376, 379, 13, 380, 381, 382, 383, 310, 311] rfl
set_option maxRecDepth 200000 in
theorem lwc_7 : ∀ w ∈ wsL_law0_r7, w ∈ lw_tbl := lw_ch [312, 313, 314, 315, 316, 317, 318, 50, 169, 170, 334, 335, 336, 339, 10, 340, 343, 11, 344, 87, 90, 512, 513, 514] rfl
set_option maxRecDepth 200000 in
theorem lwc_8 : ∀ w ∈ wsL_law0_r8, w ∈ lw_tbl := lw_ch [692, 500, 501, 502, 503, 504, 505, 506, 510, 24, 511, 472, 473, 474, 475, 476, 477, 478, 482, 20, 483, 485, 488, 21] rfl
set_option maxRecDepth 200000 in
theorem lwc_9 : ∀ w ∈ wsL_law0_r9, w ∈ lw_tbl := lw_ch [489, 490, 492, 22, 493, 496, 23, 497, 498, 515, 516, 517, 518, 519, 520, 521, 523, 525, 25, 526, 529, 26, 530, 534] rfl
set_option maxRecDepth 200000 in
theorem lwc_10 : ∀ w ∈ wsL_law0_r10, w ∈ lw_tbl := lw_ch [535, 536, 537, 531, 532, 533, 540, 27, 541, 542, 543, 544, 545, 546, 547, 548, 549, 550, 551, 552, 555, 28, 556, 557] rfl
set_option maxRecDepth 200000 in
theorem lwc_11 : ∀ w ∈ wsL_law0_r11, w ∈ lw_tbl := lw_ch [558, 559, 560, 561, 562, 563, 564, 567, 29, 568, 569, 570, 571, 572, 573, 574, 575, 576, 580, 30, 581, 582, 583, 584] rfl
set_option maxRecDepth 200000 in
theorem lwc_12 : ∀ w ∈ wsL_law0_r12, w ∈ lw_tbl := lw_ch [585, 586, 587, 588, 589, 590, 591, 593, 594, 598, 31, 599, 600, 601, 602, 603, 604, 605, 606, 607, 608, 609, 610, 611] rfl
set_option maxRecDepth 200000 in
theorem lwc_13 : ∀ w ∈ wsL_law0_r13, w ∈ lw_tbl := lw_ch [612, 613, 617, 618, 619, 620, 621, 622, 623, 625, 626, 627, 628, 629, 630, 631, 632, 633, 634, 635, 636, 637, 638, 643] rfl
set_option maxRecDepth 200000 in
theorem lwc_14 : ∀ w ∈ wsL_law0_r14, w ∈ lw_tbl := lw_ch [644, 645, 646, 647, 648, 649, 651, 652, 653, 654, 655, 656, 657, 659, 660, 661, 662, 663, 664, 665, 670, 667, 668, 669] rfl
set_option maxRecDepth 200000 in
theorem lwc_15 : ∀ w ∈ wsL_law0_r15, w ∈ lw_tbl := lw_ch [672, 674, 32, 675, 676, 678, 33, 679, 680, 682, 34, 683, 684, 686, 35, 687, 688, 690, 36, 691, 693, 694, 695, 696] rfl
set_option maxRecDepth 200000 in
theorem lwc_16 : ∀ w ∈ wsL_law0_r16, w ∈ lw_tbl := lw_ch [697, 698, 699, 701, 702, 703, 705, 37, 706, 709, 38, 710, 711, 391, 392, 393, 394, 395, 396, 397, 399, 400, 401, 402] rfl
set_option maxRecDepth 200000 in
theorem lwc_17 : ∀ w ∈ wsL_law0_r17, w ∈ lw_tbl := lw_ch [403, 404, 405, 407, 409, 14, 410, 426, 427, 428, 429, 430, 431, 432, 437, 15, 438, 469, 470, 471, 416, 417, 418, 442] rfl
set_option maxRecDepth 200000 in
theorem lwc_18 : ∀ w ∈ wsL_law0_r18, w ∈ lw_tbl := lw_ch [411, 412, 413, 414, 415, 419, 420, 421, 422, 423, 424, 425, 439, 440, 441, 443, 444, 445, 446, 447, 448, 449, 453, 16] rfl
set_option maxRecDepth 200000 in
theorem lwc_19 : ∀ w ∈ wsL_law0_r19, w ∈ lw_tbl := lw_ch [454, 459, 17, 460, 463, 18, 464, 467, 19, 468, 771, 772, 773, 742, 743, 744, 745, 746, 747, 748, 749, 750, 751, 752] rfl
set_option maxRecDepth 200000 in
theorem lwc_20 : ∀ w ∈ wsL_law0_r20, w ∈ lw_tbl := lw_ch [753, 754, 755, 756, 757, 758, 759, 760, 761, 762, 763, 764, 765, 766, 767, 768, 769, 770, 724, 725, 726, 718, 719, 720] rfl
set_option maxRecDepth 200000 in
theorem lwc_21 : ∀ w ∈ wsL_law0_r21, w ∈ lw_tbl := lw_ch [721, 722, 723, 727, 728, 729, 730, 731, 732, 733, 734, 735, 736, 737, 738, 739, 740, 741, 712, 713, 714, 715, 716, 717] rfl
set_option maxRecDepth 200000 in
theorem inX0 : ∀ w ∈ wsX00, w ∈ lw_tbl := lw_ch [91, 93, 95] rfl
set_option maxRecDepth 200000 in
theorem inX1 : ∀ w ∈ wsX10, w ∈ lw_tbl := lw_ch [131, 133, 135, 137, 139, 141, 143, 145, 147, 149, 151, 153, 155, 157, 159, 161] rfl
set_option maxRecDepth 200000 in
theorem inX2 : ∀ w ∈ wsX20, w ∈ lw_tbl := lw_ch [68, 70] rfl
set_option maxRecDepth 200000 in
theorem inX3 : ∀ w ∈ wsX30, w ∈ lw_tbl := lw_ch [173, 175, 177, 179, 181, 183, 185, 187] rfl
theorem wsL_law_x0 : ∀ w ∈ (vx_atS RX3 45 "java/lang/IllegalArgumentException" ["java/lang/RuntimeException", "java/lang/Exception"]).filter goodWord, w ∈ lw_tbl := by decide +kernel
theorem wsL_law_x1 : ∀ w ∈ (vx_atS RX3 152 "java/lang/IndexOutOfBoundsException" ["java/lang/RuntimeException", "java/lang/Exception"]).filter goodWord, w ∈ lw_tbl := by decide +kernel
theorem wsL_law_x2 : ∀ w ∈ (vx_atS RX3 56 "java/lang/IllegalStateException" ["java/lang/RuntimeException", "java/lang/Exception"]).filter goodWord, w ∈ lw_tbl := by decide +kernel
theorem wsL_law_in0 : ∀ w ∈ wsL_law0, w ∈ lw_tbl := List.forall_mem_append.mpr ⟨List.forall_mem_append.mpr ⟨List.forall_mem_append.mpr ⟨List.forall_mem_append.mpr ⟨List.forall_mem_append.mpr ⟨List.forall_mem_append.mpr ⟨lwc_1, List.forall_mem_append.mpr ⟨lwc_2, List.forall_mem_append.mpr ⟨lwc_3, List.forall_mem_append.mpr ⟨lwc_4, List.forall_mem_append.mpr ⟨lwc_5, List.forall_mem_append.mpr ⟨lwc_6, List.forall_mem_append.mpr ⟨lwc_7, List.forall_mem_append.mpr ⟨lwc_8, List.forall_mem_append.mpr ⟨lwc_9, List.forall_mem_append.mpr ⟨lwc_10, List.forall_mem_append.mpr ⟨lwc_11, List.forall_mem_append.mpr ⟨lwc_12, List.forall_mem_append.mpr ⟨lwc_13, List.forall_mem_append.mpr ⟨lwc_14, List.forall_mem_append.mpr ⟨lwc_15, List.forall_mem_append.mpr ⟨lwc_16, List.forall_mem_append.mpr ⟨lwc_17, List.forall_mem_append.mpr ⟨lwc_18, List.forall_mem_append.mpr ⟨lwc_19, List.forall_mem_append.mpr ⟨lwc_20, lwc_21⟩⟩⟩⟩⟩⟩⟩⟩⟩⟩⟩⟩⟩⟩⟩⟩⟩⟩⟩⟩, inX3⟩, inX2⟩, inX1⟩, inX0⟩, fun _ h => nomatch h⟩
theorem wsL_law_in : ∀ w ∈ wsL_law, w ∈ lw_tbl := List.forall_mem_append.mpr ⟨List.forall_mem_append.mpr ⟨List.forall_mem_append.mpr ⟨wsL_law_in0, wsL_law_x0⟩, wsL_law_x1⟩, wsL_law_x2⟩
