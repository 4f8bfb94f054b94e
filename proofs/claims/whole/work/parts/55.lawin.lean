theorem mem_by {big ws : List Cond} (ps : List Nat) (hp : ws = ps.filterMap (fun i => big[i]?)) : ∀ w ∈ ws, w ∈ big := by
  intro w hw
  rw [hp] at hw
  obtain ⟨i, -, hi⟩ := List.mem_filterMap.mp hw
  exact List.mem_of_getElem? hi
set_option maxRecDepth 20000 in
theorem wsLin_1 : ∀ w ∈ wsL_law_r1, w ∈ lw_tbl := mem_by [32, 33, 20, 618, 619, 26, 34, 35, 36, 37, 38, 39, 40, 41, 21, 138, 62, 63, 22, 139, 81, 82, 23, 140] (by decide +kernel)
set_option maxRecDepth 20000 in
theorem wsLin_2 : ∀ w ∈ wsL_law_r2, w ∈ lw_tbl := mem_by [111, 112, 25, 141, 42, 43, 44, 45, 46, 47, 48, 49, 50, 65, 66, 67, 83, 84, 85, 86, 100, 101, 87, 88] (by decide +kernel)
set_option maxRecDepth 20000 in
theorem wsLin_3 : ∀ w ∈ wsL_law_r3, w ∈ lw_tbl := mem_by [24, 102, 103, 89, 90, 91, 92, 93, 94, 113, 114, 115, 116, 119, 117, 120, 121, 122, 123, 124, 620, 621, 622, 623] (by decide +kernel)
set_option maxRecDepth 20000 in
theorem wsLin_4 : ∀ w ∈ wsL_law_r4, w ∈ lw_tbl := mem_by [624, 625, 626, 628, 630, 631, 633, 634, 635, 636, 679, 637, 638, 640, 151, 152, 153, 154, 155, 156, 157, 158, 159, 160] (by decide +kernel)
set_option maxRecDepth 20000 in
theorem wsLin_5 : ∀ w ∈ wsL_law_r5, w ∈ lw_tbl := mem_by [161, 162, 163, 164, 165, 166, 167, 168, 169, 170, 27, 171, 172, 173, 174, 175, 176, 177, 178, 680, 681, 682, 683, 632] (by decide +kernel)
set_option maxRecDepth 20000 in
theorem wsLin_6 : ∀ w ∈ wsL_law_r6, w ∈ lw_tbl := mem_by [684, 685, 686, 687, 688, 689, 690, 692, 3, 693, 694, 695, 696, 697, 698, 699, 179, 180, 181, 182, 183, 184, 185, 186] (by decide +kernel)
set_option maxRecDepth 20000 in
theorem wsLin_7 : ∀ w ∈ wsL_law_r7, w ∈ lw_tbl := mem_by [187, 188, 189, 190, 700, 701, 702, 703, 704, 705, 706, 707, 709, 4, 710, 191, 192, 193, 194, 195, 196, 197, 198, 199] (by decide +kernel)
set_option maxRecDepth 20000 in
theorem wsLin_8 : ∀ w ∈ wsL_law_r8, w ∈ lw_tbl := mem_by [200, 201, 711, 712, 713, 714, 715, 717, 5, 718, 719, 720, 721, 722, 202, 203, 204, 205, 206, 207, 208, 210, 211, 212] (by decide +kernel)
set_option maxRecDepth 20000 in
theorem wsLin_9 : ∀ w ∈ wsL_law_r9, w ∈ lw_tbl := mem_by [723, 724, 725, 726, 727, 728, 729, 730, 731, 732, 213, 214, 215, 216, 217, 218, 219, 220, 221, 222, 733, 734, 735, 736] (by decide +kernel)
set_option maxRecDepth 20000 in
theorem wsLin_10 : ∀ w ∈ wsL_law_r10, w ∈ lw_tbl := mem_by [223, 224, 225, 226, 227, 228, 229, 230, 231, 232, 233, 234, 235, 237, 238, 239, 737, 738, 739, 740, 741, 742, 743, 744] (by decide +kernel)
set_option maxRecDepth 20000 in
theorem wsLin_11 : ∀ w ∈ wsL_law_r11, w ∈ lw_tbl := mem_by [745, 746, 747, 240, 241, 242, 243, 244, 245, 28, 246, 247, 248, 249, 250, 251, 252, 253, 254, 255, 256, 257, 258, 259] (by decide +kernel)
set_option maxRecDepth 20000 in
theorem wsLin_12 : ∀ w ∈ wsL_law_r12, w ∈ lw_tbl := mem_by [260, 261, 262, 263, 264, 265, 266, 748, 749, 750, 751, 752, 753, 754, 267, 268, 269, 270, 271, 272, 273, 274, 275, 276] (by decide +kernel)
set_option maxRecDepth 20000 in
theorem wsLin_13 : ∀ w ∈ wsL_law_r13, w ∈ lw_tbl := mem_by [277, 278, 279, 280, 281, 282, 283, 284, 285, 286, 287, 288, 289, 290, 291, 292, 293, 294, 295, 68, 69, 70, 71, 296] (by decide +kernel)
set_option maxRecDepth 20000 in
theorem wsLin_14 : ∀ w ∈ wsL_law_r14, w ∈ lw_tbl := mem_by [297, 298, 299, 755, 756, 757, 758, 759, 761, 6, 762, 641, 763, 765, 7, 766, 767, 768, 769, 770, 771, 773, 8, 774] (by decide +kernel)
set_option maxRecDepth 20000 in
theorem wsLin_15 : ∀ w ∈ wsL_law_r15, w ∈ lw_tbl := mem_by [300, 301, 302, 303, 304, 305, 306, 307, 308, 309, 775, 776, 777, 778, 779, 781, 9, 782, 311, 312, 313, 314, 315, 316] (by decide +kernel)
set_option maxRecDepth 20000 in
theorem wsLin_16 : ∀ w ∈ wsL_law_r16, w ∈ lw_tbl := mem_by [317, 318, 319, 320, 321, 322, 324, 0, 325, 783, 784, 785, 786, 787, 788, 789, 326, 327, 328, 329, 330, 331, 332, 333] (by decide +kernel)
set_option maxRecDepth 20000 in
theorem wsLin_17 : ∀ w ∈ wsL_law_r17, w ∈ lw_tbl := mem_by [334, 335, 336, 337, 338, 339, 340, 341, 790, 791, 792, 793, 627, 342, 343, 344, 345, 346, 347, 348, 349, 794, 795, 796] (by decide +kernel)
set_option maxRecDepth 20000 in
theorem wsLin_18 : ∀ w ∈ wsL_law_r18, w ∈ lw_tbl := mem_by [797, 350, 351, 352, 353, 354, 355, 356, 357, 358, 359, 360, 361, 362, 363, 364, 365, 366, 367, 368, 369, 370, 371, 372] (by decide +kernel)
set_option maxRecDepth 20000 in
theorem wsLin_19 : ∀ w ∈ wsL_law_r19, w ∈ lw_tbl := mem_by [798, 799, 800, 801, 802, 804, 10, 805, 373, 374, 375, 376, 377, 378, 379, 380, 381, 806, 807, 808, 809, 629, 382, 383] (by decide +kernel)
set_option maxRecDepth 20000 in
theorem wsLin_20 : ∀ w ∈ wsL_law_r20, w ∈ lw_tbl := mem_by [384, 385, 386, 387, 388, 389, 390, 391, 392, 393, 394, 395, 396, 810, 811, 812, 813, 814, 816, 11, 817, 397, 398, 399] (by decide +kernel)
set_option maxRecDepth 20000 in
theorem wsLin_21 : ∀ w ∈ wsL_law_r21, w ∈ lw_tbl := mem_by [400, 401, 402, 403, 404, 818, 819, 820, 821, 822, 823, 824, 405, 406, 407, 408, 417, 418, 29, 409, 410, 411, 412, 413] (by decide +kernel)
set_option maxRecDepth 20000 in
theorem wsLin_22 : ∀ w ∈ wsL_law_r22, w ∈ lw_tbl := mem_by [414, 415, 416, 419, 420, 421, 422, 423, 426, 429, 432, 435, 438, 453, 454, 455, 456, 825, 826, 827, 828, 829, 830, 831] (by decide +kernel)
set_option maxRecDepth 20000 in
theorem wsLin_23 : ∀ w ∈ wsL_law_r23, w ∈ lw_tbl := mem_by [832, 833, 835, 12, 836, 457, 458, 459, 460, 439, 428, 431, 437, 461, 462, 463, 464, 837, 838, 839, 840, 841, 843, 13] (by decide +kernel)
set_option maxRecDepth 20000 in
theorem wsLin_24 : ∀ w ∈ wsL_law_r24, w ∈ lw_tbl := mem_by [844, 465, 466, 467, 468, 845, 846, 847, 848, 469, 470, 471, 472, 425, 434, 473, 474, 475, 476, 433, 436, 424, 477, 478] (by decide +kernel)
set_option maxRecDepth 20000 in
theorem wsLin_25 : ∀ w ∈ wsL_law_r25, w ∈ lw_tbl := mem_by [479, 481, 1, 482, 483, 484, 485, 486, 487, 488, 489, 490, 491, 492, 493, 494, 500, 495, 497, 2, 498, 499, 849, 850] (by decide +kernel)
set_option maxRecDepth 20000 in
theorem wsLin_26 : ∀ w ∈ wsL_law_r26, w ∈ lw_tbl := mem_by [851, 852, 853, 855, 14, 856, 857, 859, 15, 860, 861, 863, 16, 864, 865, 866, 867, 868, 870, 17, 871, 872, 501, 502] (by decide +kernel)
set_option maxRecDepth 20000 in
theorem wsLin_27 : ∀ w ∈ wsL_law_r27, w ∈ lw_tbl := mem_by [503, 504, 505, 506, 507, 508, 873, 874, 875, 876, 509, 510, 511, 512, 513, 514, 515, 516, 427, 430, 517, 518, 519, 520] (by decide +kernel)
set_option maxRecDepth 20000 in
theorem wsLin_28 : ∀ w ∈ wsL_law_r28, w ∈ lw_tbl := mem_by [521, 877, 878, 879, 880, 522, 523, 524, 525, 526, 527, 528, 529, 530, 531, 532, 533, 881, 882, 883, 884, 639, 534, 535] (by decide +kernel)
set_option maxRecDepth 20000 in
theorem wsLin_29 : ∀ w ∈ wsL_law_r29, w ∈ lw_tbl := mem_by [536, 537, 538, 539, 540, 541, 885, 886, 887, 888, 542, 543, 544, 545, 549, 546, 547, 548, 550, 551, 30, 552, 553, 554] (by decide +kernel)
set_option maxRecDepth 20000 in
theorem wsLin_30 : ∀ w ∈ wsL_law_r30, w ∈ lw_tbl := mem_by [555, 556, 557, 558, 889, 890, 891, 892, 896, 893, 894, 895, 897, 898, 899, 900, 901, 902, 559, 560, 561, 562, 563, 564] (by decide +kernel)
set_option maxRecDepth 20000 in
theorem wsLin_31 : ∀ w ∈ wsL_law_r31, w ∈ lw_tbl := mem_by [565, 567, 566, 903, 904, 905, 906, 907, 568, 569, 570, 571, 572, 573, 574, 575, 576, 577, 908, 909, 910, 911, 912, 913] (by decide +kernel)
set_option maxRecDepth 20000 in
theorem wsLin_32 : ∀ w ∈ wsL_law_r32, w ∈ lw_tbl := mem_by [914, 578, 579, 580, 581, 582, 583, 584, 585, 586, 915, 916, 917, 918, 919, 920, 587, 588, 589, 590, 591, 921, 922, 923] (by decide +kernel)
set_option maxRecDepth 20000 in
theorem wsLin_33 : ∀ w ∈ wsL_law_r33, w ∈ lw_tbl := mem_by [924, 592, 593, 594, 595, 602, 596, 597, 598, 599, 600, 601, 925, 926, 927, 928, 932, 929, 930, 931, 603, 604, 605, 606] (by decide +kernel)
set_option maxRecDepth 20000 in
theorem wsLin_34 : ∀ w ∈ wsL_law_r34, w ∈ lw_tbl := mem_by [607, 608, 31, 609, 933, 934, 935, 936, 610, 611, 612, 613, 614, 615, 616, 617, 937, 938, 939, 940, 941, 943, 18, 944] (by decide +kernel)
theorem inX8 : ∀ w ∈ wsX80, w ∈ lw_tbl := mem_by [142, 144, 146, 148] (by decide +kernel)
theorem inX9 : ∀ w ∈ wsX90, w ∈ lw_tbl := mem_by [642, 644, 646, 648, 650, 652, 654, 656, 658, 660, 662, 664, 666, 668, 670, 672, 674, 676] (by decide +kernel)
theorem inX0 : ∀ w ∈ wsX00, w ∈ lw_tbl := mem_by [51, 53, 55, 57, 59] (by decide +kernel)
theorem inX3 : ∀ w ∈ wsX30, w ∈ lw_tbl := mem_by [72, 74, 76, 78] (by decide +kernel)
theorem inX4 : ∀ w ∈ wsX40, w ∈ lw_tbl := mem_by [104, 106, 108] (by decide +kernel)
theorem inX7 : ∀ w ∈ wsX70, w ∈ lw_tbl := mem_by [125, 127, 129, 131, 133, 135] (by decide +kernel)
theorem inX6 : ∀ w ∈ wsX60, w ∈ lw_tbl := mem_by [95, 97] (by decide +kernel)
theorem inX5 : ∀ w ∈ wsX50, w ∈ lw_tbl := mem_by [440, 442, 444, 446, 448, 450] (by decide +kernel)
theorem wsL_law_in : ∀ w ∈ wsL_law, w ∈ lw_tbl := fun w h => (List.mem_append.mp h).elim (fun h => (List.mem_append.mp h).elim (fun h => (List.mem_append.mp h).elim (fun h => (List.mem_append.mp h).elim (fun h => (List.mem_append.mp h).elim (fun h => (List.mem_append.mp h).elim (fun h => (List.mem_append.mp h).elim (fun h => (List.mem_append.mp h).elim (fun h => (List.mem_append.mp h).elim (fun h => (List.mem_append.mp h).elim (fun h => wsLin_1 w h) (fun h => (List.mem_append.mp h).elim (fun h => wsLin_2 w h) (fun h => (List.mem_append.mp h).elim (fun h => wsLin_3 w h) (fun h => (List.mem_append.mp h).elim (fun h => wsLin_4 w h) (fun h => (List.mem_append.mp h).elim (fun h => wsLin_5 w h) (fun h => (List.mem_append.mp h).elim (fun h => wsLin_6 w h) (fun h => (List.mem_append.mp h).elim (fun h => wsLin_7 w h) (fun h => (List.mem_append.mp h).elim (fun h => wsLin_8 w h) (fun h => (List.mem_append.mp h).elim (fun h => wsLin_9 w h) (fun h => (List.mem_append.mp h).elim (fun h => wsLin_10 w h) (fun h => (List.mem_append.mp h).elim (fun h => wsLin_11 w h) (fun h => (List.mem_append.mp h).elim (fun h => wsLin_12 w h) (fun h => (List.mem_append.mp h).elim (fun h => wsLin_13 w h) (fun h => (List.mem_append.mp h).elim (fun h => wsLin_14 w h) (fun h => (List.mem_append.mp h).elim (fun h => wsLin_15 w h) (fun h => (List.mem_append.mp h).elim (fun h => wsLin_16 w h) (fun h => (List.mem_append.mp h).elim (fun h => wsLin_17 w h) (fun h => (List.mem_append.mp h).elim (fun h => wsLin_18 w h) (fun h => (List.mem_append.mp h).elim (fun h => wsLin_19 w h) (fun h => (List.mem_append.mp h).elim (fun h => wsLin_20 w h) (fun h => (List.mem_append.mp h).elim (fun h => wsLin_21 w h) (fun h => (List.mem_append.mp h).elim (fun h => wsLin_22 w h) (fun h => (List.mem_append.mp h).elim (fun h => wsLin_23 w h) (fun h => (List.mem_append.mp h).elim (fun h => wsLin_24 w h) (fun h => (List.mem_append.mp h).elim (fun h => wsLin_25 w h) (fun h => (List.mem_append.mp h).elim (fun h => wsLin_26 w h) (fun h => (List.mem_append.mp h).elim (fun h => wsLin_27 w h) (fun h => (List.mem_append.mp h).elim (fun h => wsLin_28 w h) (fun h => (List.mem_append.mp h).elim (fun h => wsLin_29 w h) (fun h => (List.mem_append.mp h).elim (fun h => wsLin_30 w h) (fun h => (List.mem_append.mp h).elim (fun h => wsLin_31 w h) (fun h => (List.mem_append.mp h).elim (fun h => wsLin_32 w h) (fun h => (List.mem_append.mp h).elim (fun h => wsLin_33 w h) (fun h => wsLin_34 w h)))))))))))))))))))))))))))))))))) (fun h => inX8 w h)) (fun h => inX9 w h)) (fun h => inX0 w h)) (fun h => inX3 w h)) (fun h => inX4 w h)) (fun h => inX7 w h)) (fun h => inX6 w h)) (fun h => inX5 w h)) (fun h => absurd h List.not_mem_nil)
