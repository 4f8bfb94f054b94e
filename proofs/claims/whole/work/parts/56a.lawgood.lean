set_option maxRecDepth 20000 in
theorem ggL_law_X8_init : GoodIn wsL_law wsX8_init := goodIn_r _ [8, 9, 10, 11, 12, 13, 14, 15, 16, 17, 18, 19, 20, 21, 22, 23, 24, 25, 26, 27, 28, 29, 30, 31, 32, 33, 34, 35, 36, 37, 38, 39, 40, 41, 42, 43, 44, 45, 46, 47, 48, 49, 50, 51, 52, 53, 54, 55, 56, 57, 58, 59, 60, 61, 62, 63, 64, 65, 66, 837, 838, 839, 840, 841, 815, 816, 817, 818, 842, 843, 844, 845, 846, 847, 848, 849, 850, 851, 852, 853, 854, 855] (by decide +kernel) (by decide +kernel)
set_option maxRecDepth 20000 in
theorem gL_law_X8_init : GoodIn wsL_law (wsX8_init) := ggL_law_X8_init
set_option maxRecDepth 20000 in
theorem ggL_law_X9_init : GoodIn wsL_law wsX9_init := goodIn_r _ [69, 70, 10, 11, 71, 44, 72, 73, 74, 75, 76, 77, 78, 79, 80, 81, 82, 83, 84, 819, 820, 821, 822, 823, 824, 825, 826, 827, 828, 829, 830, 831, 832, 833, 834, 835, 836] (by decide +kernel) (by decide +kernel)
set_option maxRecDepth 20000 in
theorem gL_law_X9_init : GoodIn wsL_law (wsX9_init) := ggL_law_X9_init
set_option maxRecDepth 20000 in
theorem ggL_law_X8_key : GoodIn wsL_law wsX8_key := goodIn_r _ [88, 27, 15, 89, 90, 2, 91, 92, 93, 94, 95, 96, 97, 26, 98, 64, 99, 100, 101, 14, 102, 32, 33, 34, 35, 36, 103, 104, 105, 106, 107, 108, 109, 110, 111, 112, 113, 815, 816, 817, 818, 849, 850, 851, 852, 853, 837, 838, 839, 840, 841] (by decide +kernel) (by decide +kernel)
set_option maxRecDepth 20000 in
theorem gL_law_X8_key : GoodIn wsL_law (wsV RL 13 RX8 yX8_key wsX8_key) := goodIn_app (goodIn_of _ (by decide +kernel)) ggL_law_X8_key
set_option maxRecDepth 20000 in
theorem ggL_law_X9_key : GoodIn wsL_law wsX9_key := goodIn_r _ [117, 118, 71, 72, 119, 120, 5, 121, 122, 123, 124, 125, 126, 127, 128, 129, 130, 131, 132, 133, 134, 819, 820, 821, 822, 823, 824, 825, 826, 827, 828, 829, 830, 831, 832, 833, 834, 835, 836] (by decide +kernel) (by decide +kernel)
set_option maxRecDepth 20000 in
theorem gL_law_X9_key : GoodIn wsL_law (wsV RL 17 RX9 yX9_key wsX9_key) := goodIn_app (goodIn_of _ (by decide +kernel)) ggL_law_X9_key
set_option maxRecDepth 20000 in
theorem ggL_law_X8_holder : GoodIn wsL_law wsX8_holder := goodIn_r _ [138, 15, 139, 140, 2, 141, 89, 90, 91, 142, 143, 144, 14, 145, 33, 34, 35, 146, 104, 105, 106, 107, 108, 109, 815, 816, 817, 818, 837, 838, 839, 840, 841] (by decide +kernel) (by decide +kernel)
set_option maxRecDepth 20000 in
theorem gL_law_X8_holder : GoodIn wsL_law (wsV RL 18 RX8 yX8_holder wsX8_holder) := goodIn_app (goodIn_of _ (by decide +kernel)) ggL_law_X8_holder
set_option maxRecDepth 20000 in
theorem ggL_law_X9_holder : GoodIn wsL_law wsX9_holder := goodIn_r _ [150, 151, 152, 5, 153, 119, 120, 121, 154, 155, 156, 157, 72, 129, 130, 131, 132, 133, 134, 819, 820, 821, 822, 823, 824, 825, 826, 827, 828, 829, 830, 831, 832, 833, 834, 835, 836] (by decide +kernel) (by decide +kernel)
set_option maxRecDepth 20000 in
theorem gL_law_X9_holder : GoodIn wsL_law (wsV RL 22 RX9 yX9_holder wsX9_holder) := goodIn_app (goodIn_of _ (by decide +kernel)) ggL_law_X9_holder
set_option maxRecDepth 20000 in
theorem ggL_law_X8_seal : GoodIn wsL_law wsX8_seal := goodIn_r _ [161, 15, 92, 93, 2, 94, 89, 90, 91, 146, 104, 105, 106, 107, 108, 109, 162, 163, 164, 14, 165, 36, 166, 167, 168, 103, 815, 816, 817, 818, 837, 838, 839, 840, 841] (by decide +kernel) (by decide +kernel)
set_option maxRecDepth 20000 in
theorem gL_law_X8_seal : GoodIn wsL_law (wsV RL 23 RX8 yX8_seal wsX8_seal) := goodIn_app (goodIn_of _ (by decide +kernel)) ggL_law_X8_seal
set_option maxRecDepth 20000 in
theorem ggL_law_X9_seal : GoodIn wsL_law wsX9_seal := goodIn_r _ [172, 122, 123, 5, 124, 119, 120, 121, 173, 174, 175, 176, 129, 130, 131, 132, 133, 134, 125, 126, 127, 128, 72, 177, 178, 179, 180, 819, 820, 821, 822, 823, 824, 825, 826, 827, 828, 829, 830, 831, 832, 833, 834, 835, 836] (by decide +kernel) (by decide +kernel)
set_option maxRecDepth 20000 in
theorem gL_law_X9_seal : GoodIn wsL_law (wsV RL 27 RX9 yX9_seal wsX9_seal) := goodIn_app (goodIn_of _ (by decide +kernel)) ggL_law_X9_seal
set_option maxRecDepth 20000 in
theorem ggL_law_X8_right : GoodIn wsL_law wsX8_right := goodIn_r _ [184, 185, 186, 105, 187, 188, 2, 189, 89, 90, 91, 190, 167, 168, 107, 108, 109] (by decide +kernel) (by decide +kernel)
set_option maxRecDepth 20000 in
theorem gL_law_X8_right : GoodIn wsL_law (wsV RL 28 RX8 yX8_right wsX8_right) := goodIn_app (goodIn_of _ (by decide +kernel)) ggL_law_X8_right
set_option maxRecDepth 20000 in
theorem ggL_law_X9_right : GoodIn wsL_law wsX9_right := goodIn_r _ [194, 195, 196, 5, 197, 198, 199, 200, 119, 120, 121, 129, 130, 131, 132, 133, 134] (by decide +kernel) (by decide +kernel)
set_option maxRecDepth 20000 in
theorem gL_law_X9_right : GoodIn wsL_law (wsV RL 31 RX9 yX9_right wsX9_right) := goodIn_app (goodIn_of _ (by decide +kernel)) ggL_law_X9_right
set_option maxRecDepth 20000 in
theorem ggL_law_X8_open : GoodIn wsL_law wsX8_open := goodIn_r _ [204, 15, 139, 140, 2, 141, 89, 90, 91, 205, 188, 189, 206, 207, 208, 14, 209, 210, 143, 144, 145, 33, 34, 35, 166, 167, 105, 168, 107, 108, 109, 815, 816, 817, 818, 837, 838, 839, 840, 841] (by decide +kernel) (by decide +kernel)
set_option maxRecDepth 20000 in
theorem gL_law_X8_open : GoodIn wsL_law (wsV RL 32 RX8 yX8_open wsX8_open) := goodIn_app (goodIn_of _ (by decide +kernel)) ggL_law_X8_open
set_option maxRecDepth 20000 in
theorem ggL_law_X9_open : GoodIn wsL_law wsX9_open := goodIn_r _ [214, 151, 152, 5, 153, 119, 120, 121, 198, 199, 200, 154, 155, 156, 157, 72, 129, 130, 131, 132, 133, 134, 819, 820, 821, 822, 823, 824, 825, 826, 827, 828, 829, 830, 831, 832, 833, 834, 835, 836] (by decide +kernel) (by decide +kernel)
set_option maxRecDepth 20000 in
theorem gL_law_X9_open : GoodIn wsL_law (wsV RL 35 RX9 yX9_open wsX9_open) := goodIn_app (goodIn_of _ (by decide +kernel)) ggL_law_X9_open
set_option maxRecDepth 20000 in
theorem ggL_law_X8_weight : GoodIn wsL_law wsX8_weight := goodIn_r _ [218, 139, 140, 2, 141, 89, 90, 91, 219, 220, 221, 222, 223, 224, 225, 226, 14, 227, 228, 229, 105, 230, 107, 108, 109] (by decide +kernel) (by decide +kernel)
set_option maxRecDepth 20000 in
theorem gL_law_X8_weight : GoodIn wsL_law (wsV RL 36 RX8 yX8_weight wsX8_weight) := goodIn_app (goodIn_of _ (by decide +kernel)) ggL_law_X8_weight
set_option maxRecDepth 20000 in
theorem ggL_law_X9_weight : GoodIn wsL_law wsX9_weight := goodIn_r _ [234, 151, 152, 5, 153, 119, 120, 121, 235, 236, 237, 238, 239, 240, 241, 132, 133, 134] (by decide +kernel) (by decide +kernel)
set_option maxRecDepth 20000 in
theorem gL_law_X9_weight : GoodIn wsL_law (wsV RL 39 RX9 yX9_weight wsX9_weight) := goodIn_app (goodIn_of _ (by decide +kernel)) ggL_law_X9_weight
set_option maxRecDepth 20000 in
theorem ggL_law_X8_opened : GoodIn wsL_law wsX8_opened := goodIn_r _ [245, 15, 205, 188, 2, 189, 89, 90, 91, 222, 223, 224, 246, 247, 248, 249, 250, 251, 252, 253, 254, 255, 14, 256, 32, 257, 258, 259, 260, 220, 221, 261, 207, 208, 209, 210, 143, 144, 145, 33, 34, 35, 166, 167, 105, 168, 107, 108, 109, 262, 226, 227, 228, 229, 230, 263, 264, 265, 266, 267, 268, 269, 815, 816, 817, 818, 837, 838, 839, 840, 841] (by decide +kernel) (by decide +kernel)
set_option maxRecDepth 20000 in
theorem gL_law_X8_opened : GoodIn wsL_law (wsV RL 40 RX8 yX8_opened wsX8_opened) := goodIn_app (goodIn_of _ (by decide +kernel)) ggL_law_X8_opened
set_option maxRecDepth 20000 in
theorem ggL_law_X9_opened : GoodIn wsL_law wsX9_opened := goodIn_r _ [273, 71, 198, 199, 5, 200, 119, 120, 121, 235, 236, 237, 154, 155, 156, 157, 72, 129, 130, 131, 132, 133, 134, 238, 239, 240, 241, 177, 178, 179, 180, 274, 275, 276, 819, 820, 821, 822, 823, 824, 825, 826, 827, 828, 829, 830, 831, 832, 833, 834, 835, 836] (by decide +kernel) (by decide +kernel)
set_option maxRecDepth 20000 in
theorem gL_law_X9_opened : GoodIn wsL_law (wsV RL 43 RX9 yX9_opened wsX9_opened) := goodIn_app (goodIn_of _ (by decide +kernel)) ggL_law_X9_opened
set_option maxRecDepth 20000 in
theorem ggL_law_X8_prove : GoodIn wsL_law wsX8_prove := goodIn_r _ [280, 19, 15, 89, 90, 2, 91, 281, 282, 283, 92, 93, 94, 284, 285, 286, 18, 287, 288, 104, 105, 106, 107, 108, 109, 289, 163, 164, 14, 165, 36, 166, 167, 168, 103, 290, 111, 112, 113, 291, 292, 293, 294, 295, 264, 265, 266, 229, 230, 296, 297, 298, 299, 300, 301, 302, 303, 304, 305, 306, 307, 308, 309, 310, 311, 312, 313, 815, 816, 817, 818, 837, 838, 839, 840, 841, 842, 843, 844, 845] (by decide +kernel) (by decide +kernel)
set_option maxRecDepth 20000 in
theorem gL_law_X8_prove : GoodIn wsL_law (wsV RL 44 RX8 yX8_prove wsX8_prove) := goodIn_app (goodIn_of _ (by decide +kernel)) ggL_law_X8_prove
set_option maxRecDepth 20000 in
theorem ggL_law_X9_prove : GoodIn wsL_law wsX9_prove := goodIn_r _ [317, 119, 120, 5, 121, 122, 123, 124, 318, 319, 320, 321, 322, 241, 173, 174, 175, 176, 129, 130, 131, 132, 133, 134, 125, 126, 127, 128, 72, 177, 178, 179, 180, 323, 324, 325, 326, 327, 328, 329, 330, 274, 275, 276, 331, 332, 333, 334, 819, 820, 821, 822, 823, 824, 825, 826, 827, 828, 829, 830, 831, 832, 833, 834, 835, 836] (by decide +kernel) (by decide +kernel)
set_option maxRecDepth 20000 in
theorem gL_law_X9_prove : GoodIn wsL_law (wsV RL 48 RX9 yX9_prove wsX9_prove) := goodIn_app (goodIn_of _ (by decide +kernel)) ggL_law_X9_prove
set_option maxRecDepth 20000 in
theorem ggL_law_X8_check : GoodIn wsL_law wsX8_check := goodIn_r _ [338, 19, 15, 339, 303, 304, 18, 305, 306, 307, 308, 309, 340, 341, 342, 343, 344, 186, 105, 187, 188, 2, 189, 89, 90, 91, 190, 167, 168, 107, 108, 109, 282, 283, 92, 93, 94, 299, 300, 301, 292, 293, 294, 288, 104, 106, 291, 295, 264, 265, 266, 229, 230, 296, 297, 298, 290, 111, 112, 14, 113, 36, 815, 816, 817, 818, 842, 843, 844, 845, 837, 838, 839, 840, 841] (by decide +kernel) (by decide +kernel)
set_option maxRecDepth 20000 in
theorem gL_law_X8_check : GoodIn wsL_law (wsV RL 49 RX8 yX8_check wsX8_check) := goodIn_app (goodIn_of _ (by decide +kernel)) ggL_law_X8_check
set_option maxRecDepth 20000 in
theorem ggL_law_X9_check : GoodIn wsL_law wsX9_check := goodIn_r _ [348, 349, 350, 351, 5, 352, 322, 195, 196, 197, 198, 199, 200, 119, 120, 121, 129, 130, 131, 132, 133, 134, 122, 123, 124, 323, 324, 325, 326, 327, 241, 328, 329, 330, 274, 275, 276, 177, 178, 179, 180, 331, 332, 333, 334, 125, 126, 127, 128, 72, 819, 820, 821, 822, 823, 824, 825, 826, 827, 828, 829, 830, 831, 832, 833, 834, 835, 836] (by decide +kernel) (by decide +kernel)
set_option maxRecDepth 20000 in
theorem gL_law_X9_check : GoodIn wsL_law (wsV RL 52 RX9 yX9_check wsX9_check) := goodIn_app (goodIn_of _ (by decide +kernel)) ggL_law_X9_check
set_option maxRecDepth 20000 in
theorem ggL_law_X8_voter : GoodIn wsL_law wsX8_voter := goodIn_r _ [356, 23, 357, 358, 2, 359, 89, 90, 91, 360, 361, 362, 22, 363, 45, 364, 365, 366, 367, 815, 816, 817, 818, 846, 847, 848] (by decide +kernel) (by decide +kernel)
set_option maxRecDepth 20000 in
theorem gL_law_X8_voter : GoodIn wsL_law (wsV RL 53 RX8 yX8_voter wsX8_voter) := goodIn_app (goodIn_of _ (by decide +kernel)) ggL_law_X8_voter
set_option maxRecDepth 20000 in
theorem ggL_law_X9_voter : GoodIn wsL_law wsX9_voter := goodIn_r _ [371, 73, 372, 373, 5, 374, 119, 120, 121, 819, 820, 821, 822, 823, 824, 825, 826, 827, 828, 829, 830, 831, 832, 833, 834, 835, 836] (by decide +kernel) (by decide +kernel)
set_option maxRecDepth 20000 in
theorem gL_law_X9_voter : GoodIn wsL_law (wsV RL 56 RX9 yX9_voter wsX9_voter) := goodIn_app (goodIn_of _ (by decide +kernel)) ggL_law_X9_voter
set_option maxRecDepth 20000 in
theorem ggL_law_X8_say : GoodIn wsL_law wsX8_say := goodIn_r _ [378, 23, 89, 90, 2, 91, 379, 380, 381, 22, 382, 50, 383, 384, 385, 48, 386, 56, 55, 387, 388, 389, 390, 815, 816, 817, 818, 846, 847, 848, 854, 855] (by decide +kernel) (by decide +kernel)
set_option maxRecDepth 20000 in
theorem gL_law_X8_say : GoodIn wsL_law (wsV RL 57 RX8 yX8_say wsX8_say) := goodIn_app (goodIn_of _ (by decide +kernel)) ggL_law_X8_say
set_option maxRecDepth 20000 in
theorem ggL_law_X9_say : GoodIn wsL_law wsX9_say := goodIn_r _ [394, 395, 74, 119, 120, 5, 121, 819, 820, 821, 822, 823, 824, 825, 826, 827, 828, 829, 830, 831, 832, 833, 834, 835, 836] (by decide +kernel) (by decide +kernel)
set_option maxRecDepth 20000 in
theorem gL_law_X9_say : GoodIn wsL_law (wsV RL 61 RX9 yX9_say wsX9_say) := goodIn_app (goodIn_of _ (by decide +kernel)) ggL_law_X9_say
set_option maxRecDepth 20000 in
theorem ggL_law_X8_wipe : GoodIn wsL_law wsX8_wipe := goodIn_r _ [399, 23, 379, 380, 381, 22, 382, 50, 387, 388, 389, 48, 390, 56, 400, 401, 402, 403, 815, 816, 817, 818, 846, 847, 848, 854, 855] (by decide +kernel) (by decide +kernel)
set_option maxRecDepth 20000 in
theorem gL_law_X8_wipe : GoodIn wsL_law (wsV RL 62 RX8 yX8_wipe wsX8_wipe) := goodIn_app (goodIn_of _ (by decide +kernel)) ggL_law_X8_wipe
set_option maxRecDepth 20000 in
theorem ggL_law_X9_wipe : GoodIn wsL_law wsX9_wipe := goodIn_r _ [407, 395, 819, 820, 821, 822, 823, 824, 825, 826, 827, 828, 829, 830, 831, 832, 833, 834, 835, 836] (by decide +kernel) (by decide +kernel)
set_option maxRecDepth 20000 in
theorem gL_law_X9_wipe : GoodIn wsL_law (wsV RL 66 RX9 yX9_wipe wsX9_wipe) := goodIn_app (goodIn_of _ (by decide +kernel)) ggL_law_X9_wipe
set_option maxRecDepth 20000 in
theorem ggL_law_X8_fault : GoodIn wsL_law wsX8_fault := goodIn_r _ [411, 23, 379, 380, 381, 22, 382, 50, 412, 413, 414, 48, 415, 56, 55, 416, 417, 418, 419, 420, 421, 422, 423, 424, 425, 426, 427, 428, 429, 430, 815, 816, 817, 818, 846, 847, 848, 854, 855] (by decide +kernel) (by decide +kernel)
set_option maxRecDepth 20000 in
theorem gL_law_X8_fault : GoodIn wsL_law (wsV RL 67 RX8 yX8_fault wsX8_fault) := goodIn_app (goodIn_of _ (by decide +kernel)) ggL_law_X8_fault
set_option maxRecDepth 20000 in
theorem ggL_law_X9_fault : GoodIn wsL_law wsX9_fault := goodIn_r _ [434, 435, 436, 437, 5, 438, 395, 74, 119, 120, 121, 819, 820, 821, 822, 823, 824, 825, 826, 827, 828, 829, 830, 831, 832, 833, 834, 835, 836] (by decide +kernel) (by decide +kernel)
set_option maxRecDepth 20000 in
theorem gL_law_X9_fault : GoodIn wsL_law (wsV RL 70 RX9 yX9_fault wsX9_fault) := goodIn_app (goodIn_of _ (by decide +kernel)) ggL_law_X9_fault
set_option maxRecDepth 20000 in
theorem ggL_law_X8_rule : GoodIn wsL_law wsX8_rule := goodIn_r _ [442, 23, 379, 380, 381, 22, 382, 50, 412, 413, 414, 48, 415, 56, 55, 416, 417, 418, 419, 420, 421, 422, 423, 424, 425, 426, 427, 428, 429, 430, 443, 444, 445, 446, 49, 447, 401, 402, 403, 815, 816, 817, 818, 846, 847, 848, 854, 855] (by decide +kernel) (by decide +kernel)
set_option maxRecDepth 20000 in
theorem gL_law_X8_rule : GoodIn wsL_law (wsV RL 71 RX8 yX8_rule wsX8_rule) := goodIn_app (goodIn_of _ (by decide +kernel)) ggL_law_X8_rule
set_option maxRecDepth 20000 in
theorem ggL_law_X9_rule : GoodIn wsL_law wsX9_rule := goodIn_r _ [451, 395, 452, 75, 74, 435, 436, 437, 5, 438, 119, 120, 121, 819, 820, 821, 822, 823, 824, 825, 826, 827, 828, 829, 830, 831, 832, 833, 834, 835, 836] (by decide +kernel) (by decide +kernel)
set_option maxRecDepth 20000 in
theorem gL_law_X9_rule : GoodIn wsL_law (wsV RL 74 RX9 yX9_rule wsX9_rule) := goodIn_app (goodIn_of _ (by decide +kernel)) ggL_law_X9_rule
set_option maxRecDepth 20000 in
theorem ggL_law_X8_may : GoodIn wsL_law wsX8_may := goodIn_r _ [456, 23, 357, 358, 2, 359, 89, 90, 91, 457, 458, 459, 22, 460, 49, 364, 365, 366, 367, 45, 461, 462, 463, 48, 464, 56, 55, 419, 420, 421, 422, 423, 424, 425, 426, 427, 465, 466, 467, 815, 816, 817, 818, 846, 847, 848, 854, 855] (by decide +kernel) (by decide +kernel)
set_option maxRecDepth 20000 in
theorem gL_law_X8_may : GoodIn wsL_law (wsV RL 75 RX8 yX8_may wsX8_may) := goodIn_app (goodIn_of _ (by decide +kernel)) ggL_law_X8_may
set_option maxRecDepth 20000 in
theorem ggL_law_X9_may : GoodIn wsL_law wsX9_may := goodIn_r _ [471, 372, 373, 5, 374, 119, 120, 121, 472, 473, 474, 475, 452, 75, 73, 819, 820, 821, 822, 823, 824, 825, 826, 827, 828, 829, 830, 831, 832, 833, 834, 835, 836] (by decide +kernel) (by decide +kernel)
set_option maxRecDepth 20000 in
theorem gL_law_X9_may : GoodIn wsL_law (wsV RL 78 RX9 yX9_may wsX9_may) := goodIn_app (goodIn_of _ (by decide +kernel)) ggL_law_X9_may
set_option maxRecDepth 20000 in
theorem ggL_law_X8_close : GoodIn wsL_law wsX8_close := goodIn_r _ [479, 27, 89, 90, 2, 91, 480, 481, 482, 26, 483, 66, 815, 816, 817, 818, 849, 850, 851, 852, 853] (by decide +kernel) (by decide +kernel)
set_option maxRecDepth 20000 in
theorem gL_law_X8_close : GoodIn wsL_law (wsV RL 79 RX8 yX8_close wsX8_close) := goodIn_app (goodIn_of _ (by decide +kernel)) ggL_law_X8_close
set_option maxRecDepth 20000 in
theorem ggL_law_X9_close : GoodIn wsL_law wsX9_close := goodIn_r _ [487, 76, 488, 489, 5, 490, 119, 120, 121, 819, 820, 821, 822, 823, 824, 825, 826, 827, 828, 829, 830, 831, 832, 833, 834, 835, 836] (by decide +kernel) (by decide +kernel)
set_option maxRecDepth 20000 in
theorem gL_law_X9_close : GoodIn wsL_law (wsV RL 82 RX9 yX9_close wsX9_close) := goodIn_app (goodIn_of _ (by decide +kernel)) ggL_law_X9_close
set_option maxRecDepth 20000 in
theorem ggL_law_X8_row : GoodIn wsL_law wsX8_row := goodIn_r _ [494, 27, 19, 495, 496, 497, 15, 357, 358, 2, 359, 89, 90, 91, 498, 499, 500, 501, 502, 503, 504, 26, 505, 64, 62, 339, 303, 304, 18, 305, 306, 307, 308, 309, 340, 341, 342, 343, 344, 186, 105, 187, 188, 189, 190, 167, 168, 107, 108, 109, 282, 283, 92, 93, 94, 299, 300, 301, 292, 293, 294, 288, 104, 106, 291, 295, 264, 265, 266, 229, 230, 296, 297, 298, 290, 111, 112, 14, 113, 36, 506, 507, 508, 509, 10, 11, 510, 511, 512, 513, 514, 515, 516, 517, 518, 519, 815, 816, 817, 818, 856, 857, 858, 859, 860, 861, 849, 850, 851, 852, 853, 842, 843, 844, 845, 837, 838, 839, 840, 841] (by decide +kernel) (by decide +kernel)
set_option maxRecDepth 20000 in
theorem gL_law_X8_row : GoodIn wsL_law (wsV RL 83 RX8 yX8_row wsX8_row) := goodIn_app (goodIn_of _ (by decide +kernel)) ggL_law_X8_row
set_option maxRecDepth 20000 in
theorem ggL_law_X9_row : GoodIn wsL_law wsX9_row := goodIn_r _ [523, 118, 372, 373, 5, 374, 119, 120, 121, 524, 525, 526, 527, 488, 489, 490, 528, 529, 530, 531, 77, 78, 79, 80, 82, 83, 819, 820, 821, 822, 823, 824, 825, 826, 827, 828, 829, 830, 831, 832, 833, 834, 835, 836] (by decide +kernel) (by decide +kernel)
set_option maxRecDepth 20000 in
theorem gL_law_X9_row : GoodIn wsL_law (wsV RL 86 RX9 yX9_row wsX9_row) := goodIn_app (goodIn_of _ (by decide +kernel)) ggL_law_X9_row
set_option maxRecDepth 20000 in
theorem ggL_law_X8_attach : GoodIn wsL_law wsX8_attach := goodIn_r _ [535, 27, 536, 19, 15, 537, 538, 539, 540, 541, 542, 26, 543, 64, 62, 498, 499, 2, 500, 501, 89, 90, 91, 339, 303, 304, 18, 305, 306, 307, 308, 309, 340, 341, 342, 343, 344, 186, 105, 187, 188, 189, 190, 167, 168, 107, 108, 109, 282, 283, 92, 93, 94, 299, 300, 301, 292, 293, 294, 288, 104, 106, 291, 295, 264, 265, 266, 229, 230, 296, 297, 298, 290, 111, 112, 14, 113, 36, 815, 816, 817, 818, 856, 857, 858, 859, 860, 861, 849, 850, 851, 852, 853, 842, 843, 844, 845, 837, 838, 839, 840, 841] (by decide +kernel) (by decide +kernel)
set_option maxRecDepth 20000 in
theorem gL_law_X8_attach : GoodIn wsL_law (wsV RL 87 RX8 yX8_attach wsX8_attach) := goodIn_app (goodIn_of _ (by decide +kernel)) ggL_law_X8_attach
set_option maxRecDepth 20000 in
theorem ggL_law_X9_attach : GoodIn wsL_law wsX9_attach := goodIn_r _ [547, 82, 83, 548, 549, 550, 5, 551, 118, 119, 120, 121, 524, 525, 526, 527, 819, 820, 821, 822, 823, 824, 825, 826, 827, 828, 829, 830, 831, 832, 833, 834, 835, 836] (by decide +kernel) (by decide +kernel)
set_option maxRecDepth 20000 in
theorem gL_law_X9_attach : GoodIn wsL_law (wsV RL 91 RX9 yX9_attach wsX9_attach) := goodIn_app (goodIn_of _ (by decide +kernel)) ggL_law_X9_attach
set_option maxRecDepth 20000 in
theorem ggL_law_X8_cast : GoodIn wsL_law wsX8_cast := goodIn_r _ [555, 27, 15, 19, 495, 496, 497, 357, 358, 2, 359, 89, 90, 91, 281, 282, 283, 92, 93, 94, 502, 503, 504, 26, 505, 64, 62, 146, 104, 105, 106, 107, 108, 109, 162, 163, 164, 14, 165, 36, 166, 167, 168, 103, 284, 285, 286, 18, 287, 288, 289, 290, 111, 112, 113, 291, 292, 293, 294, 295, 264, 265, 266, 229, 230, 296, 297, 298, 299, 300, 301, 302, 303, 304, 305, 306, 307, 308, 309, 340, 341, 342, 343, 344, 186, 187, 188, 189, 190, 506, 507, 508, 509, 10, 11, 510, 511, 512, 513, 514, 515, 516, 517, 518, 519, 815, 816, 817, 818, 856, 857, 858, 859, 860, 861, 849, 850, 851, 852, 853, 837, 838, 839, 840, 841, 842, 843, 844, 845] (by decide +kernel) (by decide +kernel)
set_option maxRecDepth 20000 in
theorem gL_law_X8_cast : GoodIn wsL_law (wsV RL 92 RX8 yX8_cast wsX8_cast) := goodIn_app (goodIn_of _ (by decide +kernel)) ggL_law_X8_cast
set_option maxRecDepth 20000 in
theorem ggL_law_X9_cast : GoodIn wsL_law wsX9_cast := goodIn_r _ [559, 118, 83, 372, 373, 5, 374, 119, 120, 121, 488, 489, 490, 122, 123, 124, 173, 174, 175, 176, 129, 130, 131, 132, 133, 134, 125, 126, 127, 128, 72, 177, 178, 179, 180, 528, 529, 530, 531, 77, 78, 79, 80, 82, 318, 319, 320, 321, 322, 241, 323, 324, 325, 326, 327, 328, 329, 330, 274, 275, 276, 331, 332, 333, 334, 819, 820, 821, 822, 823, 824, 825, 826, 827, 828, 829, 830, 831, 832, 833, 834, 835, 836] (by decide +kernel) (by decide +kernel)
set_option maxRecDepth 20000 in
theorem gL_law_X9_cast : GoodIn wsL_law (wsV RL 96 RX9 yX9_cast wsX9_cast) := goodIn_app (goodIn_of _ (by decide +kernel)) ggL_law_X9_cast
set_option maxRecDepth 20000 in
theorem ggL_law_X8_ofRow : GoodIn wsL_law wsX8_ofRow := goodIn_r _ [563, 27, 564, 537, 538, 565, 23, 540, 541, 542, 26, 543, 64, 62, 566, 567, 568, 569, 570, 66, 571, 572, 573, 574, 458, 459, 22, 460, 49, 364, 365, 366, 367, 45, 461, 462, 463, 48, 464, 56, 55, 419, 420, 421, 422, 423, 424, 425, 426, 427, 465, 466, 467, 575, 576, 577, 578, 579, 580, 581, 497, 582, 510, 511, 512, 513, 583, 584, 585, 586, 587, 588, 589, 590, 591, 592, 593, 594, 595, 596, 815, 816, 817, 818, 856, 857, 858, 859, 860, 861, 849, 850, 851, 852, 853, 846, 847, 848, 854, 855] (by decide +kernel) (by decide +kernel)
set_option maxRecDepth 20000 in
theorem gL_law_X8_ofRow : GoodIn wsL_law (wsV RL 97 RX8 yX8_ofRow wsX8_ofRow) := goodIn_app (goodIn_of _ (by decide +kernel)) ggL_law_X8_ofRow
set_option maxRecDepth 20000 in
theorem ggL_law_X9_ofRow : GoodIn wsL_law wsX9_ofRow := goodIn_r _ [600, 77, 78, 79, 80, 548, 549, 550, 5, 551, 118, 119, 120, 121, 601, 602, 603, 604, 605, 606, 607, 608, 76, 83, 349, 350, 351, 352, 322, 195, 196, 197, 198, 199, 200, 129, 130, 131, 132, 133, 134, 122, 123, 124, 323, 324, 325, 326, 327, 241, 328, 329, 330, 274, 275, 276, 177, 178, 179, 180, 331, 332, 333, 334, 125, 126, 127, 128, 72, 472, 473, 474, 475, 452, 75, 73, 609, 610, 611, 612, 613, 614, 615, 616, 617, 618, 619, 620, 819, 820, 821, 822, 823, 824, 825, 826, 827, 828, 829, 830, 831, 832, 833, 834, 835, 836] (by decide +kernel) (by decide +kernel)
set_option maxRecDepth 20000 in
theorem gL_law_X9_ofRow : GoodIn wsL_law (wsV RL 100 RX9 yX9_ofRow wsX9_ofRow) := goodIn_app (goodIn_of _ (by decide +kernel)) ggL_law_X9_ofRow
set_option maxRecDepth 20000 in
theorem ggL_law_X8_find : GoodIn wsL_law wsX8_find := goodIn_r _ [624, 27, 89, 90, 2, 91, 625, 626, 627, 26, 628, 64, 592, 593, 594, 595, 573, 541, 542, 543, 62, 596, 580, 581, 497, 582, 510, 511, 512, 513, 583, 584, 585, 815, 816, 817, 818, 849, 850, 851, 852, 853, 856, 857, 858, 859, 860, 861] (by decide +kernel) (by decide +kernel)
set_option maxRecDepth 20000 in
theorem gL_law_X8_find : GoodIn wsL_law (wsV RL 101 RX8 yX8_find wsX8_find) := goodIn_app (goodIn_of _ (by decide +kernel)) ggL_law_X8_find
set_option maxRecDepth 20000 in
theorem ggL_law_X9_find : GoodIn wsL_law wsX9_find := goodIn_r _ [632, 118, 119, 120, 5, 121, 609, 610, 611, 612, 613, 614, 77, 615, 78, 79, 80, 819, 820, 821, 822, 823, 824, 825, 826, 827, 828, 829, 830, 831, 832, 833, 834, 835, 836] (by decide +kernel) (by decide +kernel)
set_option maxRecDepth 20000 in
theorem gL_law_X9_find : GoodIn wsL_law (wsV RL 104 RX9 yX9_find wsX9_find) := goodIn_app (goodIn_of _ (by decide +kernel)) ggL_law_X9_find
set_option maxRecDepth 20000 in
theorem ggL_law_X8_tally : GoodIn wsL_law wsX8_tally := goodIn_r _ [636, 27, 23, 637, 638, 639, 26, 640, 64, 641, 642, 573, 541, 542, 543, 62, 643, 567, 568, 569, 570, 66, 571, 572, 574, 458, 459, 22, 460, 49, 364, 365, 366, 367, 45, 461, 462, 463, 48, 464, 56, 55, 419, 420, 421, 422, 423, 424, 425, 426, 427, 465, 466, 467, 575, 576, 577, 578, 644, 645, 646, 647, 815, 816, 817, 818, 849, 850, 851, 852, 853, 856, 857, 858, 859, 860, 861, 846, 847, 848, 854, 855] (by decide +kernel) (by decide +kernel)
set_option maxRecDepth 20000 in
theorem gL_law_X8_tally : GoodIn wsL_law (wsV RL 105 RX8 yX8_tally wsX8_tally) := goodIn_app (goodIn_of _ (by decide +kernel)) ggL_law_X8_tally
set_option maxRecDepth 20000 in
theorem ggL_law_X9_tally : GoodIn wsL_law wsX9_tally := goodIn_r _ [651, 118, 78, 79, 119, 120, 5, 121, 601, 602, 603, 604, 77, 605, 606, 607, 608, 80, 76, 83, 349, 350, 351, 352, 322, 195, 196, 197, 198, 199, 200, 129, 130, 131, 132, 133, 134, 122, 123, 124, 323, 324, 325, 326, 327, 241, 328, 329, 330, 274, 275, 276, 177, 178, 179, 180, 331, 332, 333, 334, 125, 126, 127, 128, 72, 472, 473, 474, 475, 452, 75, 73, 819, 820, 821, 822, 823, 824, 825, 826, 827, 828, 829, 830, 831, 832, 833, 834, 835, 836] (by decide +kernel) (by decide +kernel)
set_option maxRecDepth 20000 in
theorem gL_law_X9_tally : GoodIn wsL_law (wsV RL 108 RX9 yX9_tally wsX9_tally) := goodIn_app (goodIn_of _ (by decide +kernel)) ggL_law_X9_tally
set_option maxRecDepth 20000 in
theorem ggL_law_X8_copy : GoodIn wsL_law wsX8_copy := goodIn_r _ [655, 27, 89, 90, 2, 91, 656, 657, 658, 26, 659, 65, 63, 660, 661, 662, 663, 815, 816, 817, 818, 849, 850, 851, 852, 853] (by decide +kernel) (by decide +kernel)
set_option maxRecDepth 20000 in
theorem gL_law_X8_copy : GoodIn wsL_law (wsV RL 109 RX8 yX8_copy wsX8_copy) := goodIn_app (goodIn_of _ (by decide +kernel)) ggL_law_X8_copy
set_option maxRecDepth 20000 in
theorem ggL_law_X9_copy : GoodIn wsL_law wsX9_copy := goodIn_r _ [667, 668, 84, 119, 120, 5, 121, 819, 820, 821, 822, 823, 824, 825, 826, 827, 828, 829, 830, 831, 832, 833, 834, 835, 836] (by decide +kernel) (by decide +kernel)
set_option maxRecDepth 20000 in
theorem gL_law_X9_copy : GoodIn wsL_law (wsV RL 112 RX9 yX9_copy wsX9_copy) := goodIn_app (goodIn_of _ (by decide +kernel)) ggL_law_X9_copy
set_option maxRecDepth 20000 in
theorem ggL_law_X8_parted : GoodIn wsL_law wsX8_parted := goodIn_r _ [672, 27, 673, 674, 675, 26, 676, 64, 65, 63, 592, 593, 594, 595, 573, 541, 542, 543, 62, 596, 580, 581, 497, 582, 510, 511, 512, 513, 583, 584, 585, 815, 816, 817, 818, 849, 850, 851, 852, 853, 856, 857, 858, 859, 860, 861] (by decide +kernel) (by decide +kernel)
set_option maxRecDepth 20000 in
theorem gL_law_X8_parted : GoodIn wsL_law (wsV RL 113 RX8 yX8_parted wsX8_parted) := goodIn_app (goodIn_of _ (by decide +kernel)) ggL_law_X8_parted
set_option maxRecDepth 20000 in
theorem ggL_law_X9_parted : GoodIn wsL_law wsX9_parted := goodIn_r _ [680, 118, 668, 84, 609, 610, 611, 5, 612, 613, 614, 77, 615, 78, 79, 80, 819, 820, 821, 822, 823, 824, 825, 826, 827, 828, 829, 830, 831, 832, 833, 834, 835, 836] (by decide +kernel) (by decide +kernel)
set_option maxRecDepth 20000 in
theorem gL_law_X9_parted : GoodIn wsL_law (wsV RL 116 RX9 yX9_parted wsX9_parted) := goodIn_app (goodIn_of _ (by decide +kernel)) ggL_law_X9_parted
set_option maxRecDepth 20000 in
theorem ggL_law_X8_lies : GoodIn wsL_law wsX8_lies := goodIn_r _ [684, 685, 686, 687, 2, 688, 89, 90, 91, 689, 690, 691, 692, 693, 694, 695, 696, 697, 698] (by decide +kernel) (by decide +kernel)
set_option maxRecDepth 20000 in
theorem gL_law_X8_lies : GoodIn wsL_law (wsV RL 117 RX8 yX8_lies wsX8_lies) := goodIn_app (goodIn_of _ (by decide +kernel)) ggL_law_X8_lies
set_option maxRecDepth 20000 in
theorem ggL_law_X9_lies : GoodIn wsL_law wsX9_lies := goodIn_r _ [702, 703, 704, 705, 5, 706, 119, 120, 121, 707, 708, 709, 710, 711, 712] (by decide +kernel) (by decide +kernel)
set_option maxRecDepth 20000 in
theorem gL_law_X9_lies : GoodIn wsL_law (wsV RL 121 RX9 yX9_lies wsX9_lies) := goodIn_app (goodIn_of _ (by decide +kernel)) ggL_law_X9_lies
set_option maxRecDepth 20000 in
theorem ggL_law_X8_ask : GoodIn wsL_law wsX8_ask := goodIn_r _ [716, 686, 687, 2, 688, 89, 90, 91, 717, 718, 691, 719, 720, 721, 690, 692] (by decide +kernel) (by decide +kernel)
set_option maxRecDepth 20000 in
theorem gL_law_X8_ask : GoodIn wsL_law (wsV RL 122 RX8 yX8_ask wsX8_ask) := goodIn_app (goodIn_of _ (by decide +kernel)) ggL_law_X8_ask
set_option maxRecDepth 20000 in
theorem ggL_law_X9_ask : GoodIn wsL_law wsX9_ask := goodIn_r _ [725, 726, 704, 705, 5, 706, 119, 120, 121, 707, 708, 709] (by decide +kernel) (by decide +kernel)
set_option maxRecDepth 20000 in
theorem gL_law_X9_ask : GoodIn wsL_law (wsV RL 125 RX9 yX9_ask wsX9_ask) := goodIn_app (goodIn_of _ (by decide +kernel)) ggL_law_X9_ask
set_option maxRecDepth 20000 in
theorem ggL_law_X8_slips : GoodIn wsL_law wsX8_slips := goodIn_r _ [730, 685, 89, 90, 2, 91, 731, 732, 691, 733, 734, 735, 736, 721, 690, 692, 689, 693, 694, 695, 696, 697, 698] (by decide +kernel) (by decide +kernel)
set_option maxRecDepth 20000 in
theorem gL_law_X8_slips : GoodIn wsL_law (wsV RL 126 RX8 yX8_slips wsX8_slips) := goodIn_app (goodIn_of _ (by decide +kernel)) ggL_law_X8_slips
set_option maxRecDepth 20000 in
theorem ggL_law_X9_slips : GoodIn wsL_law wsX9_slips := goodIn_r _ [740, 703, 741, 742, 5, 743, 119, 120, 121, 707, 708, 709, 710, 711, 712] (by decide +kernel) (by decide +kernel)
set_option maxRecDepth 20000 in
theorem gL_law_X9_slips : GoodIn wsL_law (wsV RL 129 RX9 yX9_slips wsX9_slips) := goodIn_app (goodIn_of _ (by decide +kernel)) ggL_law_X9_slips
set_option maxRecDepth 20000 in
theorem ggL_law_X8_drawn : GoodIn wsL_law wsX8_drawn := goodIn_r _ [747, 501, 89, 90, 2, 91, 748, 749, 691, 750, 751, 752] (by decide +kernel) (by decide +kernel)
set_option maxRecDepth 20000 in
theorem gL_law_X8_drawn : GoodIn wsL_law (wsV RL 130 RX8 yX8_drawn wsX8_drawn) := goodIn_app (goodIn_of _ (by decide +kernel)) ggL_law_X8_drawn
set_option maxRecDepth 20000 in
theorem ggL_law_X9_drawn : GoodIn wsL_law wsX9_drawn := goodIn_r _ [756, 527, 757, 758, 119, 120, 5, 121, 741, 742, 743] (by decide +kernel) (by decide +kernel)
set_option maxRecDepth 20000 in
theorem gL_law_X9_drawn : GoodIn wsL_law (wsV RL 133 RX9 yX9_drawn wsX9_drawn) := goodIn_app (goodIn_of _ (by decide +kernel)) ggL_law_X9_drawn
set_option maxRecDepth 20000 in
theorem ggL_law_X8_sure : GoodIn wsL_law wsX8_sure := goodIn_r _ [762, 89, 90, 2, 91, 763, 735, 691, 736, 717, 718, 719, 720, 721, 690, 692] (by decide +kernel) (by decide +kernel)
set_option maxRecDepth 20000 in
theorem gL_law_X8_sure : GoodIn wsL_law (wsV RL 134 RX8 yX8_sure wsX8_sure) := goodIn_app (goodIn_of _ (by decide +kernel)) ggL_law_X8_sure
set_option maxRecDepth 20000 in
theorem ggL_law_X9_sure : GoodIn wsL_law wsX9_sure := goodIn_r _ [767, 726, 741, 742, 5, 743, 119, 120, 121, 707, 708, 709] (by decide +kernel) (by decide +kernel)
set_option maxRecDepth 20000 in
theorem gL_law_X9_sure : GoodIn wsL_law (wsV RL 137 RX9 yX9_sure wsX9_sure) := goodIn_app (goodIn_of _ (by decide +kernel)) ggL_law_X9_sure
set_option maxRecDepth 20000 in
theorem ggL_law_X8_told : GoodIn wsL_law wsX8_told := goodIn_r _ [771, 685, 772, 773, 774, 2, 775, 89, 90, 91, 776, 777, 778, 693, 694, 691, 695, 696, 697, 698] (by decide +kernel) (by decide +kernel)
set_option maxRecDepth 20000 in
theorem gL_law_X8_told : GoodIn wsL_law (wsV RL 138 RX8 yX8_told wsX8_told) := goodIn_app (goodIn_of _ (by decide +kernel)) ggL_law_X8_told
set_option maxRecDepth 20000 in
theorem ggL_law_X9_told : GoodIn wsL_law wsX9_told := goodIn_r _ [782, 703, 783, 784, 785, 5, 786, 119, 120, 121, 710, 711, 712] (by decide +kernel) (by decide +kernel)
set_option maxRecDepth 20000 in
theorem gL_law_X9_told : GoodIn wsL_law (wsV RL 142 RX9 yX9_told wsX9_told) := goodIn_app (goodIn_of _ (by decide +kernel)) ggL_law_X9_told
set_option maxRecDepth 20000 in
theorem ggL_law_X8_forced : GoodIn wsL_law wsX8_forced := goodIn_r _ [790, 791, 792, 793, 794, 773, 774, 2, 775, 89, 90, 91, 776, 777, 778] (by decide +kernel) (by decide +kernel)
set_option maxRecDepth 20000 in
theorem gL_law_X8_forced : GoodIn wsL_law (wsV RL 143 RX8 yX8_forced wsX8_forced) := goodIn_app (goodIn_of _ (by decide +kernel)) ggL_law_X8_forced
set_option maxRecDepth 20000 in
theorem ggL_law_X9_forced : GoodIn wsL_law wsX9_forced := goodIn_r _ [798, 784, 785, 5, 786, 119, 120, 121] (by decide +kernel) (by decide +kernel)
set_option maxRecDepth 20000 in
theorem gL_law_X9_forced : GoodIn wsL_law (wsV RL 146 RX9 yX9_forced wsX9_forced) := goodIn_app (goodIn_of _ (by decide +kernel)) ggL_law_X9_forced
set_option maxRecDepth 20000 in
theorem ggL_law_X8_count : GoodIn wsL_law wsX8_count := goodIn_r _ [802, 27, 23, 15, 89, 90, 2, 91, 644, 645, 646, 26, 647, 64, 643, 567, 568, 569, 570, 66, 571, 572, 573, 541, 542, 543, 62, 574, 458, 459, 22, 460, 49, 364, 365, 366, 367, 45, 461, 462, 463, 48, 464, 56, 55, 419, 420, 421, 422, 423, 424, 425, 426, 427, 465, 466, 467, 575, 576, 577, 578, 95, 96, 97, 98, 379, 380, 381, 382, 50, 387, 388, 389, 390, 110, 111, 112, 14, 113, 36, 253, 254, 255, 256, 32, 803, 804, 805, 806, 660, 661, 662, 663, 65, 815, 816, 817, 818, 849, 850, 851, 852, 853, 856, 857, 858, 859, 860, 861, 846, 847, 848, 854, 855, 837, 838, 839, 840, 841] (by decide +kernel) (by decide +kernel)
set_option maxRecDepth 20000 in
theorem gL_law_X8_count : GoodIn wsL_law (wsV RL 147 RX8 yX8_count wsX8_count) := goodIn_app (goodIn_of _ (by decide +kernel)) ggL_law_X8_count
set_option maxRecDepth 20000 in
theorem ggL_law_X9_count : GoodIn wsL_law wsX9_count := goodIn_r _ [810, 118, 395, 71, 76, 668, 119, 120, 5, 121, 811, 812, 813, 814, 601, 602, 603, 604, 77, 605, 606, 607, 608, 80, 78, 79, 83, 349, 350, 351, 352, 322, 195, 196, 197, 198, 199, 200, 129, 130, 131, 132, 133, 134, 122, 123, 124, 323, 324, 325, 326, 327, 241, 328, 329, 330, 274, 275, 276, 177, 178, 179, 180, 331, 332, 333, 334, 125, 126, 127, 128, 72, 472, 473, 474, 475, 452, 75, 73, 819, 820, 821, 822, 823, 824, 825, 826, 827, 828, 829, 830, 831, 832, 833, 834, 835, 836] (by decide +kernel) (by decide +kernel)
set_option maxRecDepth 20000 in
theorem gL_law_X9_count : GoodIn wsL_law (wsV RL 150 RX9 yX9_count wsX9_count) := goodIn_app (goodIn_of _ (by decide +kernel)) ggL_law_X9_count
