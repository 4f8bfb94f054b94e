theorem mem_by {big ws : List Cond} (ps : List Nat) (hp : ws = ps.filterMap (fun i => big[i]?)) : ∀ w ∈ ws, w ∈ big := by
  intro w hw
  rw [hp] at hw
  obtain ⟨i, -, hi⟩ := List.mem_filterMap.mp hw
  exact List.mem_of_getElem? hi
set_option maxRecDepth 20000 in
theorem wsLin_1 : ∀ w ∈ wsL_law_r1, w ∈ lw_tbl := mem_by [32, 33, 20, 615, 616, 26, 34, 35, 36, 37, 38, 39, 40, 41, 21, 135, 62, 63, 22, 136, 81, 82, 23, 137] (by decide +kernel)
set_option maxRecDepth 20000 in
theorem wsLin_2 : ∀ w ∈ wsL_law_r2, w ∈ lw_tbl := mem_by [111, 112, 25, 138, 42, 43, 44, 45, 46, 47, 48, 49, 50, 65, 66, 67, 83, 84, 85, 86, 100, 101, 87, 88] (by decide +kernel)
set_option maxRecDepth 20000 in
theorem wsLin_3 : ∀ w ∈ wsL_law_r3, w ∈ lw_tbl := mem_by [24, 102, 103, 89, 90, 91, 92, 93, 94, 113, 114, 115, 116, 117, 119, 120, 121, 122, 123, 617, 618, 619, 620, 621] (by decide +kernel)
set_option maxRecDepth 20000 in
theorem wsLin_4 : ∀ w ∈ wsL_law_r4, w ∈ lw_tbl := mem_by [622, 623, 625, 627, 628, 630, 631, 632, 633, 676, 634, 635, 637, 148, 149, 150, 151, 152, 153, 154, 155, 156, 157, 158] (by decide +kernel)
set_option maxRecDepth 20000 in
theorem wsLin_5 : ∀ w ∈ wsL_law_r5, w ∈ lw_tbl := mem_by [159, 160, 161, 162, 163, 164, 165, 166, 167, 27, 168, 169, 170, 171, 172, 173, 174, 175, 677, 678, 679, 680, 629, 681] (by decide +kernel)
set_option maxRecDepth 20000 in
theorem wsLin_6 : ∀ w ∈ wsL_law_r6, w ∈ lw_tbl := mem_by [682, 683, 684, 685, 686, 687, 689, 3, 690, 691, 692, 693, 694, 695, 696, 176, 177, 178, 179, 180, 181, 182, 183, 184] (by decide +kernel)
set_option maxRecDepth 20000 in
theorem wsLin_7 : ∀ w ∈ wsL_law_r7, w ∈ lw_tbl := mem_by [185, 186, 187, 697, 698, 699, 700, 701, 702, 703, 704, 706, 4, 707, 188, 189, 190, 191, 192, 193, 194, 195, 196, 197] (by decide +kernel)
set_option maxRecDepth 20000 in
theorem wsLin_8 : ∀ w ∈ wsL_law_r8, w ∈ lw_tbl := mem_by [198, 708, 709, 710, 711, 712, 714, 5, 715, 716, 717, 718, 719, 199, 200, 201, 202, 203, 204, 205, 207, 208, 209, 720] (by decide +kernel)
set_option maxRecDepth 20000 in
theorem wsLin_9 : ∀ w ∈ wsL_law_r9, w ∈ lw_tbl := mem_by [721, 722, 723, 724, 725, 726, 727, 728, 729, 210, 211, 212, 213, 214, 215, 216, 217, 218, 219, 730, 731, 732, 733, 220] (by decide +kernel)
set_option maxRecDepth 20000 in
theorem wsLin_10 : ∀ w ∈ wsL_law_r10, w ∈ lw_tbl := mem_by [221, 222, 223, 224, 225, 226, 227, 228, 229, 230, 231, 232, 234, 235, 236, 734, 735, 736, 737, 738, 739, 740, 741, 742] (by decide +kernel)
set_option maxRecDepth 20000 in
theorem wsLin_11 : ∀ w ∈ wsL_law_r11, w ∈ lw_tbl := mem_by [743, 744, 237, 238, 239, 240, 241, 242, 28, 243, 244, 245, 246, 247, 248, 249, 250, 251, 252, 253, 254, 255, 256, 257] (by decide +kernel)
set_option maxRecDepth 20000 in
theorem wsLin_12 : ∀ w ∈ wsL_law_r12, w ∈ lw_tbl := mem_by [258, 259, 260, 261, 262, 263, 745, 746, 747, 748, 749, 750, 751, 264, 265, 266, 267, 268, 269, 270, 271, 272, 273, 274] (by decide +kernel)
set_option maxRecDepth 20000 in
theorem wsLin_13 : ∀ w ∈ wsL_law_r13, w ∈ lw_tbl := mem_by [275, 276, 277, 278, 279, 280, 281, 282, 283, 284, 285, 286, 287, 288, 289, 290, 291, 292, 68, 69, 70, 71, 293, 294] (by decide +kernel)
set_option maxRecDepth 20000 in
theorem wsLin_14 : ∀ w ∈ wsL_law_r14, w ∈ lw_tbl := mem_by [295, 296, 752, 753, 754, 755, 756, 758, 6, 759, 638, 760, 762, 7, 763, 764, 765, 766, 767, 768, 770, 8, 771, 297] (by decide +kernel)
set_option maxRecDepth 20000 in
theorem wsLin_15 : ∀ w ∈ wsL_law_r15, w ∈ lw_tbl := mem_by [298, 299, 300, 301, 302, 303, 304, 305, 306, 772, 773, 774, 775, 776, 778, 9, 779, 308, 309, 310, 311, 312, 313, 314] (by decide +kernel)
set_option maxRecDepth 20000 in
theorem wsLin_16 : ∀ w ∈ wsL_law_r16, w ∈ lw_tbl := mem_by [315, 316, 317, 318, 319, 321, 0, 322, 780, 781, 782, 783, 784, 785, 786, 323, 324, 325, 326, 327, 328, 329, 330, 331] (by decide +kernel)
set_option maxRecDepth 20000 in
theorem wsLin_17 : ∀ w ∈ wsL_law_r17, w ∈ lw_tbl := mem_by [332, 333, 334, 335, 336, 337, 338, 787, 788, 789, 790, 624, 339, 340, 341, 342, 343, 344, 345, 346, 791, 792, 793, 794] (by decide +kernel)
set_option maxRecDepth 20000 in
theorem wsLin_18 : ∀ w ∈ wsL_law_r18, w ∈ lw_tbl := mem_by [347, 348, 349, 350, 351, 352, 353, 354, 355, 356, 357, 358, 359, 360, 361, 362, 363, 364, 365, 366, 367, 368, 369, 795] (by decide +kernel)
set_option maxRecDepth 20000 in
theorem wsLin_19 : ∀ w ∈ wsL_law_r19, w ∈ lw_tbl := mem_by [796, 797, 798, 799, 801, 10, 802, 370, 371, 372, 373, 374, 375, 376, 377, 378, 803, 804, 805, 806, 626, 379, 380, 381] (by decide +kernel)
set_option maxRecDepth 20000 in
theorem wsLin_20 : ∀ w ∈ wsL_law_r20, w ∈ lw_tbl := mem_by [382, 383, 384, 385, 386, 387, 388, 389, 390, 391, 392, 393, 807, 808, 809, 810, 811, 813, 11, 814, 394, 395, 396, 397] (by decide +kernel)
set_option maxRecDepth 20000 in
theorem wsLin_21 : ∀ w ∈ wsL_law_r21, w ∈ lw_tbl := mem_by [398, 399, 400, 401, 815, 816, 817, 818, 819, 820, 821, 402, 403, 404, 405, 414, 415, 29, 406, 407, 408, 409, 410, 411] (by decide +kernel)
set_option maxRecDepth 20000 in
theorem wsLin_22 : ∀ w ∈ wsL_law_r22, w ∈ lw_tbl := mem_by [412, 413, 416, 417, 418, 419, 420, 423, 426, 429, 432, 435, 450, 451, 452, 453, 822, 823, 824, 825, 826, 827, 828, 829] (by decide +kernel)
set_option maxRecDepth 20000 in
theorem wsLin_23 : ∀ w ∈ wsL_law_r23, w ∈ lw_tbl := mem_by [830, 832, 12, 833, 454, 455, 456, 457, 436, 425, 428, 434, 458, 459, 460, 461, 834, 835, 836, 837, 838, 840, 13, 841] (by decide +kernel)
set_option maxRecDepth 20000 in
theorem wsLin_24 : ∀ w ∈ wsL_law_r24, w ∈ lw_tbl := mem_by [462, 463, 464, 465, 842, 843, 844, 845, 466, 467, 468, 469, 422, 431, 470, 471, 472, 473, 430, 433, 421, 474, 475, 476] (by decide +kernel)
set_option maxRecDepth 20000 in
theorem wsLin_25 : ∀ w ∈ wsL_law_r25, w ∈ lw_tbl := mem_by [478, 1, 479, 480, 481, 482, 483, 484, 485, 486, 487, 488, 489, 490, 491, 497, 492, 494, 2, 495, 496, 846, 847, 848] (by decide +kernel)
set_option maxRecDepth 20000 in
theorem wsLin_26 : ∀ w ∈ wsL_law_r26, w ∈ lw_tbl := mem_by [849, 850, 852, 14, 853, 854, 856, 15, 857, 858, 860, 16, 861, 862, 863, 864, 865, 867, 17, 868, 869, 498, 499, 500] (by decide +kernel)
set_option maxRecDepth 20000 in
theorem wsLin_27 : ∀ w ∈ wsL_law_r27, w ∈ lw_tbl := mem_by [501, 502, 503, 504, 505, 870, 871, 872, 873, 506, 507, 508, 509, 510, 511, 512, 513, 424, 427, 514, 515, 516, 517, 518] (by decide +kernel)
set_option maxRecDepth 20000 in
theorem wsLin_28 : ∀ w ∈ wsL_law_r28, w ∈ lw_tbl := mem_by [874, 875, 876, 877, 519, 520, 521, 522, 523, 524, 525, 526, 527, 528, 529, 530, 878, 879, 880, 881, 636, 531, 532, 533] (by decide +kernel)
set_option maxRecDepth 20000 in
theorem wsLin_29 : ∀ w ∈ wsL_law_r29, w ∈ lw_tbl := mem_by [534, 535, 536, 537, 538, 882, 883, 884, 885, 539, 540, 541, 542, 546, 543, 544, 545, 547, 548, 30, 549, 550, 551, 552] (by decide +kernel)
set_option maxRecDepth 20000 in
theorem wsLin_30 : ∀ w ∈ wsL_law_r30, w ∈ lw_tbl := mem_by [553, 554, 555, 886, 887, 888, 889, 893, 890, 891, 892, 894, 895, 896, 897, 898, 899, 556, 557, 558, 559, 560, 561, 562] (by decide +kernel)
set_option maxRecDepth 20000 in
theorem wsLin_31 : ∀ w ∈ wsL_law_r31, w ∈ lw_tbl := mem_by [564, 563, 900, 901, 902, 903, 904, 565, 566, 567, 568, 569, 570, 571, 572, 573, 574, 905, 906, 907, 908, 909, 910, 911] (by decide +kernel)
set_option maxRecDepth 20000 in
theorem wsLin_32 : ∀ w ∈ wsL_law_r32, w ∈ lw_tbl := mem_by [575, 576, 577, 578, 579, 580, 581, 582, 583, 912, 913, 914, 915, 916, 917, 584, 585, 586, 587, 588, 918, 919, 920, 921] (by decide +kernel)
set_option maxRecDepth 20000 in
theorem wsLin_33 : ∀ w ∈ wsL_law_r33, w ∈ lw_tbl := mem_by [589, 590, 591, 592, 599, 593, 594, 595, 596, 597, 598, 922, 923, 924, 925, 929, 926, 927, 928, 600, 601, 602, 603, 604] (by decide +kernel)
set_option maxRecDepth 20000 in
theorem wsLin_34 : ∀ w ∈ wsL_law_r34, w ∈ lw_tbl := mem_by [605, 31, 606, 930, 931, 932, 933, 607, 608, 609, 610, 611, 612, 613, 614, 934, 935, 936, 937, 938, 940, 18, 941] (by decide +kernel)
theorem inX8 : ∀ w ∈ wsX80, w ∈ lw_tbl := mem_by [139, 141, 143, 145] (by decide +kernel)
theorem inX9 : ∀ w ∈ wsX90, w ∈ lw_tbl := mem_by [639, 641, 643, 645, 647, 649, 651, 653, 655, 657, 659, 661, 663, 665, 667, 669, 671, 673] (by decide +kernel)
theorem inX0 : ∀ w ∈ wsX00, w ∈ lw_tbl := mem_by [51, 53, 55, 57, 59] (by decide +kernel)
theorem inX3 : ∀ w ∈ wsX30, w ∈ lw_tbl := mem_by [72, 74, 76, 78] (by decide +kernel)
theorem inX4 : ∀ w ∈ wsX40, w ∈ lw_tbl := mem_by [104, 106, 108] (by decide +kernel)
theorem inX7 : ∀ w ∈ wsX70, w ∈ lw_tbl := mem_by [124, 126, 128, 130, 132] (by decide +kernel)
theorem inX6 : ∀ w ∈ wsX60, w ∈ lw_tbl := mem_by [95, 97] (by decide +kernel)
theorem inX5 : ∀ w ∈ wsX50, w ∈ lw_tbl := mem_by [437, 439, 441, 443, 445, 447] (by decide +kernel)
theorem wsL_law_in : ∀ w ∈ wsL_law, w ∈ lw_tbl := fun w h => (List.mem_append.mp h).elim (fun h => (List.mem_append.mp h).elim (fun h => (List.mem_append.mp h).elim (fun h => (List.mem_append.mp h).elim (fun h => (List.mem_append.mp h).elim (fun h => (List.mem_append.mp h).elim (fun h => (List.mem_append.mp h).elim (fun h => (List.mem_append.mp h).elim (fun h => (List.mem_append.mp h).elim (fun h => (List.mem_append.mp h).elim (fun h => wsLin_1 w h) (fun h => (List.mem_append.mp h).elim (fun h => wsLin_2 w h) (fun h => (List.mem_append.mp h).elim (fun h => wsLin_3 w h) (fun h => (List.mem_append.mp h).elim (fun h => wsLin_4 w h) (fun h => (List.mem_append.mp h).elim (fun h => wsLin_5 w h) (fun h => (List.mem_append.mp h).elim (fun h => wsLin_6 w h) (fun h => (List.mem_append.mp h).elim (fun h => wsLin_7 w h) (fun h => (List.mem_append.mp h).elim (fun h => wsLin_8 w h) (fun h => (List.mem_append.mp h).elim (fun h => wsLin_9 w h) (fun h => (List.mem_append.mp h).elim (fun h => wsLin_10 w h) (fun h => (List.mem_append.mp h).elim (fun h => wsLin_11 w h) (fun h => (List.mem_append.mp h).elim (fun h => wsLin_12 w h) (fun h => (List.mem_append.mp h).elim (fun h => wsLin_13 w h) (fun h => (List.mem_append.mp h).elim (fun h => wsLin_14 w h) (fun h => (List.mem_append.mp h).elim (fun h => wsLin_15 w h) (fun h => (List.mem_append.mp h).elim (fun h => wsLin_16 w h) (fun h => (List.mem_append.mp h).elim (fun h => wsLin_17 w h) (fun h => (List.mem_append.mp h).elim (fun h => wsLin_18 w h) (fun h => (List.mem_append.mp h).elim (fun h => wsLin_19 w h) (fun h => (List.mem_append.mp h).elim (fun h => wsLin_20 w h) (fun h => (List.mem_append.mp h).elim (fun h => wsLin_21 w h) (fun h => (List.mem_append.mp h).elim (fun h => wsLin_22 w h) (fun h => (List.mem_append.mp h).elim (fun h => wsLin_23 w h) (fun h => (List.mem_append.mp h).elim (fun h => wsLin_24 w h) (fun h => (List.mem_append.mp h).elim (fun h => wsLin_25 w h) (fun h => (List.mem_append.mp h).elim (fun h => wsLin_26 w h) (fun h => (List.mem_append.mp h).elim (fun h => wsLin_27 w h) (fun h => (List.mem_append.mp h).elim (fun h => wsLin_28 w h) (fun h => (List.mem_append.mp h).elim (fun h => wsLin_29 w h) (fun h => (List.mem_append.mp h).elim (fun h => wsLin_30 w h) (fun h => (List.mem_append.mp h).elim (fun h => wsLin_31 w h) (fun h => (List.mem_append.mp h).elim (fun h => wsLin_32 w h) (fun h => (List.mem_append.mp h).elim (fun h => wsLin_33 w h) (fun h => wsLin_34 w h)))))))))))))))))))))))))))))))))) (fun h => inX8 w h)) (fun h => inX9 w h)) (fun h => inX0 w h)) (fun h => inX3 w h)) (fun h => inX4 w h)) (fun h => inX7 w h)) (fun h => inX6 w h)) (fun h => inX5 w h)) (fun h => absurd h List.not_mem_nil)
