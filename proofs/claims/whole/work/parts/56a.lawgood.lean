set_option maxRecDepth 20000 in
theorem ggL_law_X8_init : GoodIn wsL_law wsX8_init := goodIn_r _ [8, 9, 10, 11, 12, 13, 14, 15, 16, 17, 18, 19, 20, 21, 22, 23, 24, 25, 26, 27, 28, 29, 30, 31, 32, 33, 34, 35, 36, 37, 38, 39, 40, 41, 42, 43, 44, 45, 46, 47, 48, 49, 50, 51, 52, 53, 54, 55, 56, 57, 58, 59, 60, 61, 62, 63, 64, 65, 66, 67, 838, 839, 840, 841, 842, 816, 817, 818, 819, 843, 844, 845, 846, 847, 848, 849, 850, 851, 852, 853, 854, 855, 856, 857] (by decide +kernel) (by decide +kernel)
set_option maxRecDepth 20000 in
theorem gL_law_X8_init : GoodIn wsL_law (wsX8_init) := ggL_law_X8_init
set_option maxRecDepth 20000 in
theorem ggL_law_X9_init : GoodIn wsL_law wsX9_init := goodIn_r _ [70, 71, 10, 11, 72, 44, 73, 74, 75, 76, 77, 78, 79, 80, 81, 82, 83, 84, 85, 820, 821, 822, 823, 824, 825, 826, 827, 828, 829, 830, 831, 832, 833, 834, 835, 836, 837] (by decide +kernel) (by decide +kernel)
set_option maxRecDepth 20000 in
theorem gL_law_X9_init : GoodIn wsL_law (wsX9_init) := ggL_law_X9_init
set_option maxRecDepth 20000 in
theorem ggL_law_X8_key : GoodIn wsL_law wsX8_key := goodIn_r _ [89, 27, 15, 90, 91, 2, 92, 93, 94, 95, 96, 97, 98, 26, 99, 65, 100, 101, 102, 14, 103, 32, 33, 34, 35, 36, 104, 105, 106, 107, 108, 109, 110, 111, 112, 113, 114, 816, 817, 818, 819, 850, 851, 852, 853, 854, 855, 838, 839, 840, 841, 842] (by decide +kernel) (by decide +kernel)
set_option maxRecDepth 20000 in
theorem gL_law_X8_key : GoodIn wsL_law (wsV RL 13 RX8 yX8_key wsX8_key) := goodIn_app (goodIn_of _ (by decide +kernel)) ggL_law_X8_key
set_option maxRecDepth 20000 in
theorem ggL_law_X9_key : GoodIn wsL_law wsX9_key := goodIn_r _ [118, 119, 72, 73, 120, 121, 5, 122, 123, 124, 125, 126, 127, 128, 129, 130, 131, 132, 133, 134, 135, 820, 821, 822, 823, 824, 825, 826, 827, 828, 829, 830, 831, 832, 833, 834, 835, 836, 837] (by decide +kernel) (by decide +kernel)
set_option maxRecDepth 20000 in
theorem gL_law_X9_key : GoodIn wsL_law (wsV RL 17 RX9 yX9_key wsX9_key) := goodIn_app (goodIn_of _ (by decide +kernel)) ggL_law_X9_key
set_option maxRecDepth 20000 in
theorem ggL_law_X8_holder : GoodIn wsL_law wsX8_holder := goodIn_r _ [139, 15, 140, 141, 2, 142, 90, 91, 92, 143, 144, 145, 14, 146, 33, 34, 35, 147, 105, 106, 107, 108, 109, 110, 816, 817, 818, 819, 838, 839, 840, 841, 842] (by decide +kernel) (by decide +kernel)
set_option maxRecDepth 20000 in
theorem gL_law_X8_holder : GoodIn wsL_law (wsV RL 18 RX8 yX8_holder wsX8_holder) := goodIn_app (goodIn_of _ (by decide +kernel)) ggL_law_X8_holder
set_option maxRecDepth 20000 in
theorem ggL_law_X9_holder : GoodIn wsL_law wsX9_holder := goodIn_r _ [151, 152, 153, 5, 154, 120, 121, 122, 155, 156, 157, 158, 73, 130, 131, 132, 133, 134, 135, 820, 821, 822, 823, 824, 825, 826, 827, 828, 829, 830, 831, 832, 833, 834, 835, 836, 837] (by decide +kernel) (by decide +kernel)
set_option maxRecDepth 20000 in
theorem gL_law_X9_holder : GoodIn wsL_law (wsV RL 22 RX9 yX9_holder wsX9_holder) := goodIn_app (goodIn_of _ (by decide +kernel)) ggL_law_X9_holder
set_option maxRecDepth 20000 in
theorem ggL_law_X8_seal : GoodIn wsL_law wsX8_seal := goodIn_r _ [162, 15, 93, 94, 2, 95, 90, 91, 92, 147, 105, 106, 107, 108, 109, 110, 163, 164, 165, 14, 166, 36, 167, 168, 169, 104, 816, 817, 818, 819, 838, 839, 840, 841, 842] (by decide +kernel) (by decide +kernel)
set_option maxRecDepth 20000 in
theorem gL_law_X8_seal : GoodIn wsL_law (wsV RL 23 RX8 yX8_seal wsX8_seal) := goodIn_app (goodIn_of _ (by decide +kernel)) ggL_law_X8_seal
set_option maxRecDepth 20000 in
theorem ggL_law_X9_seal : GoodIn wsL_law wsX9_seal := goodIn_r _ [173, 123, 124, 5, 125, 120, 121, 122, 174, 175, 176, 177, 130, 131, 132, 133, 134, 135, 126, 127, 128, 129, 73, 178, 179, 180, 181, 820, 821, 822, 823, 824, 825, 826, 827, 828, 829, 830, 831, 832, 833, 834, 835, 836, 837] (by decide +kernel) (by decide +kernel)
set_option maxRecDepth 20000 in
theorem gL_law_X9_seal : GoodIn wsL_law (wsV RL 27 RX9 yX9_seal wsX9_seal) := goodIn_app (goodIn_of _ (by decide +kernel)) ggL_law_X9_seal
set_option maxRecDepth 20000 in
theorem ggL_law_X8_right : GoodIn wsL_law wsX8_right := goodIn_r _ [185, 186, 187, 106, 188, 189, 2, 190, 90, 91, 92, 191, 168, 169, 108, 109, 110] (by decide +kernel) (by decide +kernel)
set_option maxRecDepth 20000 in
theorem gL_law_X8_right : GoodIn wsL_law (wsV RL 28 RX8 yX8_right wsX8_right) := goodIn_app (goodIn_of _ (by decide +kernel)) ggL_law_X8_right
set_option maxRecDepth 20000 in
theorem ggL_law_X9_right : GoodIn wsL_law wsX9_right := goodIn_r _ [195, 196, 197, 5, 198, 199, 200, 201, 120, 121, 122, 130, 131, 132, 133, 134, 135] (by decide +kernel) (by decide +kernel)
set_option maxRecDepth 20000 in
theorem gL_law_X9_right : GoodIn wsL_law (wsV RL 31 RX9 yX9_right wsX9_right) := goodIn_app (goodIn_of _ (by decide +kernel)) ggL_law_X9_right
set_option maxRecDepth 20000 in
theorem ggL_law_X8_open : GoodIn wsL_law wsX8_open := goodIn_r _ [205, 15, 140, 141, 2, 142, 90, 91, 92, 206, 189, 190, 207, 208, 209, 14, 210, 211, 144, 145, 146, 33, 34, 35, 167, 168, 106, 169, 108, 109, 110, 816, 817, 818, 819, 838, 839, 840, 841, 842] (by decide +kernel) (by decide +kernel)
set_option maxRecDepth 20000 in
theorem gL_law_X8_open : GoodIn wsL_law (wsV RL 32 RX8 yX8_open wsX8_open) := goodIn_app (goodIn_of _ (by decide +kernel)) ggL_law_X8_open
set_option maxRecDepth 20000 in
theorem ggL_law_X9_open : GoodIn wsL_law wsX9_open := goodIn_r _ [215, 152, 153, 5, 154, 120, 121, 122, 199, 200, 201, 155, 156, 157, 158, 73, 130, 131, 132, 133, 134, 135, 820, 821, 822, 823, 824, 825, 826, 827, 828, 829, 830, 831, 832, 833, 834, 835, 836, 837] (by decide +kernel) (by decide +kernel)
set_option maxRecDepth 20000 in
theorem gL_law_X9_open : GoodIn wsL_law (wsV RL 35 RX9 yX9_open wsX9_open) := goodIn_app (goodIn_of _ (by decide +kernel)) ggL_law_X9_open
set_option maxRecDepth 20000 in
theorem ggL_law_X8_weight : GoodIn wsL_law wsX8_weight := goodIn_r _ [219, 140, 141, 2, 142, 90, 91, 92, 220, 221, 222, 223, 224, 225, 226, 227, 14, 228, 229, 230, 106, 231, 108, 109, 110] (by decide +kernel) (by decide +kernel)
set_option maxRecDepth 20000 in
theorem gL_law_X8_weight : GoodIn wsL_law (wsV RL 36 RX8 yX8_weight wsX8_weight) := goodIn_app (goodIn_of _ (by decide +kernel)) ggL_law_X8_weight
set_option maxRecDepth 20000 in
theorem ggL_law_X9_weight : GoodIn wsL_law wsX9_weight := goodIn_r _ [235, 152, 153, 5, 154, 120, 121, 122, 236, 237, 238, 239, 240, 241, 242, 133, 134, 135] (by decide +kernel) (by decide +kernel)
set_option maxRecDepth 20000 in
theorem gL_law_X9_weight : GoodIn wsL_law (wsV RL 39 RX9 yX9_weight wsX9_weight) := goodIn_app (goodIn_of _ (by decide +kernel)) ggL_law_X9_weight
set_option maxRecDepth 20000 in
theorem ggL_law_X8_opened : GoodIn wsL_law wsX8_opened := goodIn_r _ [246, 15, 206, 189, 2, 190, 90, 91, 92, 223, 224, 225, 247, 248, 249, 250, 251, 252, 253, 254, 255, 256, 14, 257, 32, 258, 259, 260, 261, 221, 222, 262, 208, 209, 210, 211, 144, 145, 146, 33, 34, 35, 167, 168, 106, 169, 108, 109, 110, 263, 227, 228, 229, 230, 231, 264, 265, 266, 267, 268, 269, 270, 816, 817, 818, 819, 838, 839, 840, 841, 842] (by decide +kernel) (by decide +kernel)
set_option maxRecDepth 20000 in
theorem gL_law_X8_opened : GoodIn wsL_law (wsV RL 40 RX8 yX8_opened wsX8_opened) := goodIn_app (goodIn_of _ (by decide +kernel)) ggL_law_X8_opened
set_option maxRecDepth 20000 in
theorem ggL_law_X9_opened : GoodIn wsL_law wsX9_opened := goodIn_r _ [274, 72, 199, 200, 5, 201, 120, 121, 122, 236, 237, 238, 155, 156, 157, 158, 73, 130, 131, 132, 133, 134, 135, 239, 240, 241, 242, 178, 179, 180, 181, 275, 276, 277, 820, 821, 822, 823, 824, 825, 826, 827, 828, 829, 830, 831, 832, 833, 834, 835, 836, 837] (by decide +kernel) (by decide +kernel)
set_option maxRecDepth 20000 in
theorem gL_law_X9_opened : GoodIn wsL_law (wsV RL 43 RX9 yX9_opened wsX9_opened) := goodIn_app (goodIn_of _ (by decide +kernel)) ggL_law_X9_opened
set_option maxRecDepth 20000 in
theorem ggL_law_X8_prove : GoodIn wsL_law wsX8_prove := goodIn_r _ [281, 19, 15, 90, 91, 2, 92, 282, 283, 284, 93, 94, 95, 285, 286, 287, 18, 288, 289, 105, 106, 107, 108, 109, 110, 290, 164, 165, 14, 166, 36, 167, 168, 169, 104, 291, 112, 113, 114, 292, 293, 294, 295, 296, 265, 266, 267, 230, 231, 297, 298, 299, 300, 301, 302, 303, 304, 305, 306, 307, 308, 309, 310, 311, 312, 313, 314, 816, 817, 818, 819, 838, 839, 840, 841, 842, 843, 844, 845, 846] (by decide +kernel) (by decide +kernel)
set_option maxRecDepth 20000 in
theorem gL_law_X8_prove : GoodIn wsL_law (wsV RL 44 RX8 yX8_prove wsX8_prove) := goodIn_app (goodIn_of _ (by decide +kernel)) ggL_law_X8_prove
set_option maxRecDepth 20000 in
theorem ggL_law_X9_prove : GoodIn wsL_law wsX9_prove := goodIn_r _ [318, 120, 121, 5, 122, 123, 124, 125, 319, 320, 321, 322, 323, 242, 174, 175, 176, 177, 130, 131, 132, 133, 134, 135, 126, 127, 128, 129, 73, 178, 179, 180, 181, 324, 325, 326, 327, 328, 329, 330, 331, 275, 276, 277, 332, 333, 334, 335, 820, 821, 822, 823, 824, 825, 826, 827, 828, 829, 830, 831, 832, 833, 834, 835, 836, 837] (by decide +kernel) (by decide +kernel)
set_option maxRecDepth 20000 in
theorem gL_law_X9_prove : GoodIn wsL_law (wsV RL 48 RX9 yX9_prove wsX9_prove) := goodIn_app (goodIn_of _ (by decide +kernel)) ggL_law_X9_prove
set_option maxRecDepth 20000 in
theorem ggL_law_X8_check : GoodIn wsL_law wsX8_check := goodIn_r _ [339, 19, 15, 340, 304, 305, 18, 306, 307, 308, 309, 310, 341, 342, 343, 344, 345, 187, 106, 188, 189, 2, 190, 90, 91, 92, 191, 168, 169, 108, 109, 110, 283, 284, 93, 94, 95, 300, 301, 302, 293, 294, 295, 289, 105, 107, 292, 296, 265, 266, 267, 230, 231, 297, 298, 299, 291, 112, 113, 14, 114, 36, 816, 817, 818, 819, 843, 844, 845, 846, 838, 839, 840, 841, 842] (by decide +kernel) (by decide +kernel)
set_option maxRecDepth 20000 in
theorem gL_law_X8_check : GoodIn wsL_law (wsV RL 49 RX8 yX8_check wsX8_check) := goodIn_app (goodIn_of _ (by decide +kernel)) ggL_law_X8_check
set_option maxRecDepth 20000 in
theorem ggL_law_X9_check : GoodIn wsL_law wsX9_check := goodIn_r _ [349, 350, 351, 352, 5, 353, 323, 196, 197, 198, 199, 200, 201, 120, 121, 122, 130, 131, 132, 133, 134, 135, 123, 124, 125, 324, 325, 326, 327, 328, 242, 329, 330, 331, 275, 276, 277, 178, 179, 180, 181, 332, 333, 334, 335, 126, 127, 128, 129, 73, 820, 821, 822, 823, 824, 825, 826, 827, 828, 829, 830, 831, 832, 833, 834, 835, 836, 837] (by decide +kernel) (by decide +kernel)
set_option maxRecDepth 20000 in
theorem gL_law_X9_check : GoodIn wsL_law (wsV RL 52 RX9 yX9_check wsX9_check) := goodIn_app (goodIn_of _ (by decide +kernel)) ggL_law_X9_check
set_option maxRecDepth 20000 in
theorem ggL_law_X8_voter : GoodIn wsL_law wsX8_voter := goodIn_r _ [357, 23, 358, 359, 2, 360, 90, 91, 92, 361, 362, 363, 22, 364, 45, 365, 366, 367, 368, 816, 817, 818, 819, 847, 848, 849] (by decide +kernel) (by decide +kernel)
set_option maxRecDepth 20000 in
theorem gL_law_X8_voter : GoodIn wsL_law (wsV RL 53 RX8 yX8_voter wsX8_voter) := goodIn_app (goodIn_of _ (by decide +kernel)) ggL_law_X8_voter
set_option maxRecDepth 20000 in
theorem ggL_law_X9_voter : GoodIn wsL_law wsX9_voter := goodIn_r _ [372, 74, 373, 374, 5, 375, 120, 121, 122, 820, 821, 822, 823, 824, 825, 826, 827, 828, 829, 830, 831, 832, 833, 834, 835, 836, 837] (by decide +kernel) (by decide +kernel)
set_option maxRecDepth 20000 in
theorem gL_law_X9_voter : GoodIn wsL_law (wsV RL 56 RX9 yX9_voter wsX9_voter) := goodIn_app (goodIn_of _ (by decide +kernel)) ggL_law_X9_voter
set_option maxRecDepth 20000 in
theorem ggL_law_X8_say : GoodIn wsL_law wsX8_say := goodIn_r _ [379, 23, 90, 91, 2, 92, 380, 381, 382, 22, 383, 50, 384, 385, 386, 48, 387, 56, 55, 388, 389, 390, 391, 816, 817, 818, 819, 847, 848, 849, 856, 857] (by decide +kernel) (by decide +kernel)
set_option maxRecDepth 20000 in
theorem gL_law_X8_say : GoodIn wsL_law (wsV RL 57 RX8 yX8_say wsX8_say) := goodIn_app (goodIn_of _ (by decide +kernel)) ggL_law_X8_say
set_option maxRecDepth 20000 in
theorem ggL_law_X9_say : GoodIn wsL_law wsX9_say := goodIn_r _ [395, 396, 75, 120, 121, 5, 122, 820, 821, 822, 823, 824, 825, 826, 827, 828, 829, 830, 831, 832, 833, 834, 835, 836, 837] (by decide +kernel) (by decide +kernel)
set_option maxRecDepth 20000 in
theorem gL_law_X9_say : GoodIn wsL_law (wsV RL 61 RX9 yX9_say wsX9_say) := goodIn_app (goodIn_of _ (by decide +kernel)) ggL_law_X9_say
set_option maxRecDepth 20000 in
theorem ggL_law_X8_wipe : GoodIn wsL_law wsX8_wipe := goodIn_r _ [400, 23, 380, 381, 382, 22, 383, 50, 388, 389, 390, 48, 391, 56, 401, 402, 403, 404, 816, 817, 818, 819, 847, 848, 849, 856, 857] (by decide +kernel) (by decide +kernel)
set_option maxRecDepth 20000 in
theorem gL_law_X8_wipe : GoodIn wsL_law (wsV RL 62 RX8 yX8_wipe wsX8_wipe) := goodIn_app (goodIn_of _ (by decide +kernel)) ggL_law_X8_wipe
set_option maxRecDepth 20000 in
theorem ggL_law_X9_wipe : GoodIn wsL_law wsX9_wipe := goodIn_r _ [408, 396, 820, 821, 822, 823, 824, 825, 826, 827, 828, 829, 830, 831, 832, 833, 834, 835, 836, 837] (by decide +kernel) (by decide +kernel)
set_option maxRecDepth 20000 in
theorem gL_law_X9_wipe : GoodIn wsL_law (wsV RL 66 RX9 yX9_wipe wsX9_wipe) := goodIn_app (goodIn_of _ (by decide +kernel)) ggL_law_X9_wipe
set_option maxRecDepth 20000 in
theorem ggL_law_X8_fault : GoodIn wsL_law wsX8_fault := goodIn_r _ [412, 23, 380, 381, 382, 22, 383, 50, 413, 414, 415, 48, 416, 56, 55, 417, 418, 419, 420, 421, 422, 423, 424, 425, 426, 427, 428, 429, 430, 431, 816, 817, 818, 819, 847, 848, 849, 856, 857] (by decide +kernel) (by decide +kernel)
set_option maxRecDepth 20000 in
theorem gL_law_X8_fault : GoodIn wsL_law (wsV RL 67 RX8 yX8_fault wsX8_fault) := goodIn_app (goodIn_of _ (by decide +kernel)) ggL_law_X8_fault
set_option maxRecDepth 20000 in
theorem ggL_law_X9_fault : GoodIn wsL_law wsX9_fault := goodIn_r _ [435, 436, 437, 438, 5, 439, 396, 75, 120, 121, 122, 820, 821, 822, 823, 824, 825, 826, 827, 828, 829, 830, 831, 832, 833, 834, 835, 836, 837] (by decide +kernel) (by decide +kernel)
set_option maxRecDepth 20000 in
theorem gL_law_X9_fault : GoodIn wsL_law (wsV RL 70 RX9 yX9_fault wsX9_fault) := goodIn_app (goodIn_of _ (by decide +kernel)) ggL_law_X9_fault
set_option maxRecDepth 20000 in
theorem ggL_law_X8_rule : GoodIn wsL_law wsX8_rule := goodIn_r _ [443, 23, 380, 381, 382, 22, 383, 50, 413, 414, 415, 48, 416, 56, 55, 417, 418, 419, 420, 421, 422, 423, 424, 425, 426, 427, 428, 429, 430, 431, 444, 445, 446, 447, 49, 448, 402, 403, 404, 816, 817, 818, 819, 847, 848, 849, 856, 857] (by decide +kernel) (by decide +kernel)
set_option maxRecDepth 20000 in
theorem gL_law_X8_rule : GoodIn wsL_law (wsV RL 71 RX8 yX8_rule wsX8_rule) := goodIn_app (goodIn_of _ (by decide +kernel)) ggL_law_X8_rule
set_option maxRecDepth 20000 in
theorem ggL_law_X9_rule : GoodIn wsL_law wsX9_rule := goodIn_r _ [452, 396, 453, 76, 75, 436, 437, 438, 5, 439, 120, 121, 122, 820, 821, 822, 823, 824, 825, 826, 827, 828, 829, 830, 831, 832, 833, 834, 835, 836, 837] (by decide +kernel) (by decide +kernel)
set_option maxRecDepth 20000 in
theorem gL_law_X9_rule : GoodIn wsL_law (wsV RL 74 RX9 yX9_rule wsX9_rule) := goodIn_app (goodIn_of _ (by decide +kernel)) ggL_law_X9_rule
set_option maxRecDepth 20000 in
theorem ggL_law_X8_may : GoodIn wsL_law wsX8_may := goodIn_r _ [457, 23, 358, 359, 2, 360, 90, 91, 92, 458, 459, 460, 22, 461, 49, 365, 366, 367, 368, 45, 462, 463, 464, 48, 465, 56, 55, 420, 421, 422, 423, 424, 425, 426, 427, 428, 466, 467, 468, 816, 817, 818, 819, 847, 848, 849, 856, 857] (by decide +kernel) (by decide +kernel)
set_option maxRecDepth 20000 in
theorem gL_law_X8_may : GoodIn wsL_law (wsV RL 75 RX8 yX8_may wsX8_may) := goodIn_app (goodIn_of _ (by decide +kernel)) ggL_law_X8_may
set_option maxRecDepth 20000 in
theorem ggL_law_X9_may : GoodIn wsL_law wsX9_may := goodIn_r _ [472, 373, 374, 5, 375, 120, 121, 122, 473, 474, 475, 476, 453, 76, 74, 820, 821, 822, 823, 824, 825, 826, 827, 828, 829, 830, 831, 832, 833, 834, 835, 836, 837] (by decide +kernel) (by decide +kernel)
set_option maxRecDepth 20000 in
theorem gL_law_X9_may : GoodIn wsL_law (wsV RL 78 RX9 yX9_may wsX9_may) := goodIn_app (goodIn_of _ (by decide +kernel)) ggL_law_X9_may
set_option maxRecDepth 20000 in
theorem ggL_law_X8_close : GoodIn wsL_law wsX8_close := goodIn_r _ [480, 27, 90, 91, 2, 92, 481, 482, 483, 26, 484, 67, 816, 817, 818, 819, 850, 851, 852, 853, 854, 855] (by decide +kernel) (by decide +kernel)
set_option maxRecDepth 20000 in
theorem gL_law_X8_close : GoodIn wsL_law (wsV RL 79 RX8 yX8_close wsX8_close) := goodIn_app (goodIn_of _ (by decide +kernel)) ggL_law_X8_close
set_option maxRecDepth 20000 in
theorem ggL_law_X9_close : GoodIn wsL_law wsX9_close := goodIn_r _ [488, 77, 489, 490, 5, 491, 120, 121, 122, 820, 821, 822, 823, 824, 825, 826, 827, 828, 829, 830, 831, 832, 833, 834, 835, 836, 837] (by decide +kernel) (by decide +kernel)
set_option maxRecDepth 20000 in
theorem gL_law_X9_close : GoodIn wsL_law (wsV RL 82 RX9 yX9_close wsX9_close) := goodIn_app (goodIn_of _ (by decide +kernel)) ggL_law_X9_close
set_option maxRecDepth 20000 in
theorem ggL_law_X8_row : GoodIn wsL_law wsX8_row := goodIn_r _ [495, 27, 19, 496, 497, 498, 15, 358, 359, 2, 360, 90, 91, 92, 499, 500, 501, 502, 503, 504, 505, 26, 506, 65, 63, 340, 304, 305, 18, 306, 307, 308, 309, 310, 341, 342, 343, 344, 345, 187, 106, 188, 189, 190, 191, 168, 169, 108, 109, 110, 283, 284, 93, 94, 95, 300, 301, 302, 293, 294, 295, 289, 105, 107, 292, 296, 265, 266, 267, 230, 231, 297, 298, 299, 291, 112, 113, 14, 114, 36, 507, 508, 509, 510, 10, 11, 511, 512, 513, 514, 515, 516, 517, 518, 519, 520, 816, 817, 818, 819, 858, 859, 860, 861, 862, 863, 850, 851, 852, 853, 854, 855, 843, 844, 845, 846, 838, 839, 840, 841, 842] (by decide +kernel) (by decide +kernel)
set_option maxRecDepth 20000 in
theorem gL_law_X8_row : GoodIn wsL_law (wsV RL 83 RX8 yX8_row wsX8_row) := goodIn_app (goodIn_of _ (by decide +kernel)) ggL_law_X8_row
set_option maxRecDepth 20000 in
theorem ggL_law_X9_row : GoodIn wsL_law wsX9_row := goodIn_r _ [524, 119, 373, 374, 5, 375, 120, 121, 122, 525, 526, 527, 528, 489, 490, 491, 529, 530, 531, 532, 78, 79, 80, 81, 83, 84, 820, 821, 822, 823, 824, 825, 826, 827, 828, 829, 830, 831, 832, 833, 834, 835, 836, 837] (by decide +kernel) (by decide +kernel)
set_option maxRecDepth 20000 in
theorem gL_law_X9_row : GoodIn wsL_law (wsV RL 86 RX9 yX9_row wsX9_row) := goodIn_app (goodIn_of _ (by decide +kernel)) ggL_law_X9_row
set_option maxRecDepth 20000 in
theorem ggL_law_X8_attach : GoodIn wsL_law wsX8_attach := goodIn_r _ [536, 27, 537, 19, 15, 538, 539, 540, 541, 542, 543, 26, 544, 65, 63, 499, 500, 2, 501, 502, 90, 91, 92, 340, 304, 305, 18, 306, 307, 308, 309, 310, 341, 342, 343, 344, 345, 187, 106, 188, 189, 190, 191, 168, 169, 108, 109, 110, 283, 284, 93, 94, 95, 300, 301, 302, 293, 294, 295, 289, 105, 107, 292, 296, 265, 266, 267, 230, 231, 297, 298, 299, 291, 112, 113, 14, 114, 36, 816, 817, 818, 819, 858, 859, 860, 861, 862, 863, 850, 851, 852, 853, 854, 855, 843, 844, 845, 846, 838, 839, 840, 841, 842] (by decide +kernel) (by decide +kernel)
set_option maxRecDepth 20000 in
theorem gL_law_X8_attach : GoodIn wsL_law (wsV RL 87 RX8 yX8_attach wsX8_attach) := goodIn_app (goodIn_of _ (by decide +kernel)) ggL_law_X8_attach
set_option maxRecDepth 20000 in
theorem ggL_law_X9_attach : GoodIn wsL_law wsX9_attach := goodIn_r _ [548, 83, 84, 549, 550, 551, 5, 552, 119, 120, 121, 122, 525, 526, 527, 528, 820, 821, 822, 823, 824, 825, 826, 827, 828, 829, 830, 831, 832, 833, 834, 835, 836, 837] (by decide +kernel) (by decide +kernel)
set_option maxRecDepth 20000 in
theorem gL_law_X9_attach : GoodIn wsL_law (wsV RL 91 RX9 yX9_attach wsX9_attach) := goodIn_app (goodIn_of _ (by decide +kernel)) ggL_law_X9_attach
set_option maxRecDepth 20000 in
theorem ggL_law_X8_cast : GoodIn wsL_law wsX8_cast := goodIn_r _ [556, 27, 15, 19, 496, 497, 498, 358, 359, 2, 360, 90, 91, 92, 282, 283, 284, 93, 94, 95, 503, 504, 505, 26, 506, 65, 63, 147, 105, 106, 107, 108, 109, 110, 163, 164, 165, 14, 166, 36, 167, 168, 169, 104, 285, 286, 287, 18, 288, 289, 290, 291, 112, 113, 114, 292, 293, 294, 295, 296, 265, 266, 267, 230, 231, 297, 298, 299, 300, 301, 302, 303, 304, 305, 306, 307, 308, 309, 310, 341, 342, 343, 344, 345, 187, 188, 189, 190, 191, 507, 508, 509, 510, 10, 11, 511, 512, 513, 514, 515, 516, 517, 518, 519, 520, 816, 817, 818, 819, 858, 859, 860, 861, 862, 863, 850, 851, 852, 853, 854, 855, 838, 839, 840, 841, 842, 843, 844, 845, 846] (by decide +kernel) (by decide +kernel)
set_option maxRecDepth 20000 in
theorem gL_law_X8_cast : GoodIn wsL_law (wsV RL 92 RX8 yX8_cast wsX8_cast) := goodIn_app (goodIn_of _ (by decide +kernel)) ggL_law_X8_cast
set_option maxRecDepth 20000 in
theorem ggL_law_X9_cast : GoodIn wsL_law wsX9_cast := goodIn_r _ [560, 119, 84, 373, 374, 5, 375, 120, 121, 122, 489, 490, 491, 123, 124, 125, 174, 175, 176, 177, 130, 131, 132, 133, 134, 135, 126, 127, 128, 129, 73, 178, 179, 180, 181, 529, 530, 531, 532, 78, 79, 80, 81, 83, 319, 320, 321, 322, 323, 242, 324, 325, 326, 327, 328, 329, 330, 331, 275, 276, 277, 332, 333, 334, 335, 820, 821, 822, 823, 824, 825, 826, 827, 828, 829, 830, 831, 832, 833, 834, 835, 836, 837] (by decide +kernel) (by decide +kernel)
set_option maxRecDepth 20000 in
theorem gL_law_X9_cast : GoodIn wsL_law (wsV RL 96 RX9 yX9_cast wsX9_cast) := goodIn_app (goodIn_of _ (by decide +kernel)) ggL_law_X9_cast
set_option maxRecDepth 20000 in
theorem ggL_law_X8_ofRow : GoodIn wsL_law wsX8_ofRow := goodIn_r _ [564, 27, 565, 538, 539, 566, 541, 542, 543, 26, 544, 65, 63, 567, 568, 569, 570, 571, 67, 572, 61, 573, 574, 575, 459, 460, 22, 461, 49, 365, 366, 367, 368, 45, 462, 463, 464, 48, 465, 56, 55, 420, 421, 422, 423, 424, 425, 426, 427, 428, 466, 467, 468, 576, 577, 578, 579, 580, 581, 582, 498, 583, 511, 512, 513, 514, 584, 585, 586, 587, 588, 589, 590, 591, 592, 593, 594, 595, 596, 597, 816, 817, 818, 819, 858, 859, 860, 861, 862, 863, 850, 851, 852, 853, 854, 855, 847, 848, 849, 856, 857] (by decide +kernel) (by decide +kernel)
set_option maxRecDepth 20000 in
theorem gL_law_X8_ofRow : GoodIn wsL_law (wsV RL 97 RX8 yX8_ofRow wsX8_ofRow) := goodIn_app (goodIn_of _ (by decide +kernel)) ggL_law_X8_ofRow
set_option maxRecDepth 20000 in
theorem ggL_law_X9_ofRow : GoodIn wsL_law wsX9_ofRow := goodIn_r _ [601, 78, 79, 80, 81, 549, 550, 551, 5, 552, 119, 120, 121, 122, 602, 603, 604, 605, 606, 607, 608, 609, 77, 84, 350, 351, 352, 353, 323, 196, 197, 198, 199, 200, 201, 130, 131, 132, 133, 134, 135, 123, 124, 125, 324, 325, 326, 327, 328, 242, 329, 330, 331, 275, 276, 277, 178, 179, 180, 181, 332, 333, 334, 335, 126, 127, 128, 129, 73, 473, 474, 475, 476, 453, 76, 74, 610, 611, 612, 613, 614, 615, 616, 617, 618, 619, 620, 621, 820, 821, 822, 823, 824, 825, 826, 827, 828, 829, 830, 831, 832, 833, 834, 835, 836, 837] (by decide +kernel) (by decide +kernel)
set_option maxRecDepth 20000 in
theorem gL_law_X9_ofRow : GoodIn wsL_law (wsV RL 100 RX9 yX9_ofRow wsX9_ofRow) := goodIn_app (goodIn_of _ (by decide +kernel)) ggL_law_X9_ofRow
set_option maxRecDepth 20000 in
theorem ggL_law_X8_find : GoodIn wsL_law wsX8_find := goodIn_r _ [625, 27, 90, 91, 2, 92, 626, 627, 628, 26, 629, 65, 593, 594, 595, 596, 574, 542, 543, 544, 63, 597, 581, 582, 498, 583, 511, 512, 513, 514, 584, 585, 586, 816, 817, 818, 819, 850, 851, 852, 853, 854, 855, 858, 859, 860, 861, 862, 863] (by decide +kernel) (by decide +kernel)
set_option maxRecDepth 20000 in
theorem gL_law_X8_find : GoodIn wsL_law (wsV RL 101 RX8 yX8_find wsX8_find) := goodIn_app (goodIn_of _ (by decide +kernel)) ggL_law_X8_find
set_option maxRecDepth 20000 in
theorem ggL_law_X9_find : GoodIn wsL_law wsX9_find := goodIn_r _ [633, 119, 120, 121, 5, 122, 610, 611, 612, 613, 614, 615, 78, 616, 79, 80, 81, 820, 821, 822, 823, 824, 825, 826, 827, 828, 829, 830, 831, 832, 833, 834, 835, 836, 837] (by decide +kernel) (by decide +kernel)
set_option maxRecDepth 20000 in
theorem gL_law_X9_find : GoodIn wsL_law (wsV RL 104 RX9 yX9_find wsX9_find) := goodIn_app (goodIn_of _ (by decide +kernel)) ggL_law_X9_find
set_option maxRecDepth 20000 in
theorem ggL_law_X8_tally : GoodIn wsL_law wsX8_tally := goodIn_r _ [637, 27, 638, 639, 640, 26, 641, 65, 642, 643, 574, 542, 543, 544, 63, 644, 568, 569, 570, 571, 67, 572, 61, 573, 575, 459, 460, 22, 461, 49, 365, 366, 367, 368, 45, 462, 463, 464, 48, 465, 56, 55, 420, 421, 422, 423, 424, 425, 426, 427, 428, 466, 467, 468, 576, 577, 578, 579, 645, 646, 647, 648, 816, 817, 818, 819, 850, 851, 852, 853, 854, 855, 858, 859, 860, 861, 862, 863, 847, 848, 849, 856, 857] (by decide +kernel) (by decide +kernel)
set_option maxRecDepth 20000 in
theorem gL_law_X8_tally : GoodIn wsL_law (wsV RL 105 RX8 yX8_tally wsX8_tally) := goodIn_app (goodIn_of _ (by decide +kernel)) ggL_law_X8_tally
set_option maxRecDepth 20000 in
theorem ggL_law_X9_tally : GoodIn wsL_law wsX9_tally := goodIn_r _ [652, 119, 79, 80, 120, 121, 5, 122, 602, 603, 604, 605, 78, 606, 607, 608, 609, 81, 77, 84, 350, 351, 352, 353, 323, 196, 197, 198, 199, 200, 201, 130, 131, 132, 133, 134, 135, 123, 124, 125, 324, 325, 326, 327, 328, 242, 329, 330, 331, 275, 276, 277, 178, 179, 180, 181, 332, 333, 334, 335, 126, 127, 128, 129, 73, 473, 474, 475, 476, 453, 76, 74, 820, 821, 822, 823, 824, 825, 826, 827, 828, 829, 830, 831, 832, 833, 834, 835, 836, 837] (by decide +kernel) (by decide +kernel)
set_option maxRecDepth 20000 in
theorem gL_law_X9_tally : GoodIn wsL_law (wsV RL 108 RX9 yX9_tally wsX9_tally) := goodIn_app (goodIn_of _ (by decide +kernel)) ggL_law_X9_tally
set_option maxRecDepth 20000 in
theorem ggL_law_X8_copy : GoodIn wsL_law wsX8_copy := goodIn_r _ [656, 27, 90, 91, 2, 92, 657, 658, 659, 26, 660, 66, 64, 661, 662, 663, 664, 816, 817, 818, 819, 850, 851, 852, 853, 854, 855] (by decide +kernel) (by decide +kernel)
set_option maxRecDepth 20000 in
theorem gL_law_X8_copy : GoodIn wsL_law (wsV RL 109 RX8 yX8_copy wsX8_copy) := goodIn_app (goodIn_of _ (by decide +kernel)) ggL_law_X8_copy
set_option maxRecDepth 20000 in
theorem ggL_law_X9_copy : GoodIn wsL_law wsX9_copy := goodIn_r _ [668, 669, 85, 120, 121, 5, 122, 820, 821, 822, 823, 824, 825, 826, 827, 828, 829, 830, 831, 832, 833, 834, 835, 836, 837] (by decide +kernel) (by decide +kernel)
set_option maxRecDepth 20000 in
theorem gL_law_X9_copy : GoodIn wsL_law (wsV RL 112 RX9 yX9_copy wsX9_copy) := goodIn_app (goodIn_of _ (by decide +kernel)) ggL_law_X9_copy
set_option maxRecDepth 20000 in
theorem ggL_law_X8_parted : GoodIn wsL_law wsX8_parted := goodIn_r _ [673, 27, 674, 675, 676, 26, 677, 65, 66, 64, 593, 594, 595, 596, 574, 542, 543, 544, 63, 597, 581, 582, 498, 583, 511, 512, 513, 514, 584, 585, 586, 816, 817, 818, 819, 850, 851, 852, 853, 854, 855, 858, 859, 860, 861, 862, 863] (by decide +kernel) (by decide +kernel)
set_option maxRecDepth 20000 in
theorem gL_law_X8_parted : GoodIn wsL_law (wsV RL 113 RX8 yX8_parted wsX8_parted) := goodIn_app (goodIn_of _ (by decide +kernel)) ggL_law_X8_parted
set_option maxRecDepth 20000 in
theorem ggL_law_X9_parted : GoodIn wsL_law wsX9_parted := goodIn_r _ [681, 119, 669, 85, 610, 611, 612, 5, 613, 614, 615, 78, 616, 79, 80, 81, 820, 821, 822, 823, 824, 825, 826, 827, 828, 829, 830, 831, 832, 833, 834, 835, 836, 837] (by decide +kernel) (by decide +kernel)
set_option maxRecDepth 20000 in
theorem gL_law_X9_parted : GoodIn wsL_law (wsV RL 116 RX9 yX9_parted wsX9_parted) := goodIn_app (goodIn_of _ (by decide +kernel)) ggL_law_X9_parted
set_option maxRecDepth 20000 in
theorem ggL_law_X8_lies : GoodIn wsL_law wsX8_lies := goodIn_r _ [685, 686, 687, 688, 2, 689, 90, 91, 92, 690, 691, 692, 693, 694, 695, 696, 697, 698, 699] (by decide +kernel) (by decide +kernel)
set_option maxRecDepth 20000 in
theorem gL_law_X8_lies : GoodIn wsL_law (wsV RL 117 RX8 yX8_lies wsX8_lies) := goodIn_app (goodIn_of _ (by decide +kernel)) ggL_law_X8_lies
set_option maxRecDepth 20000 in
theorem ggL_law_X9_lies : GoodIn wsL_law wsX9_lies := goodIn_r _ [703, 704, 705, 706, 5, 707, 120, 121, 122, 708, 709, 710, 711, 712, 713] (by decide +kernel) (by decide +kernel)
set_option maxRecDepth 20000 in
theorem gL_law_X9_lies : GoodIn wsL_law (wsV RL 121 RX9 yX9_lies wsX9_lies) := goodIn_app (goodIn_of _ (by decide +kernel)) ggL_law_X9_lies
set_option maxRecDepth 20000 in
theorem ggL_law_X8_ask : GoodIn wsL_law wsX8_ask := goodIn_r _ [717, 687, 688, 2, 689, 90, 91, 92, 718, 719, 692, 720, 721, 722, 691, 693] (by decide +kernel) (by decide +kernel)
set_option maxRecDepth 20000 in
theorem gL_law_X8_ask : GoodIn wsL_law (wsV RL 122 RX8 yX8_ask wsX8_ask) := goodIn_app (goodIn_of _ (by decide +kernel)) ggL_law_X8_ask
set_option maxRecDepth 20000 in
theorem ggL_law_X9_ask : GoodIn wsL_law wsX9_ask := goodIn_r _ [726, 727, 705, 706, 5, 707, 120, 121, 122, 708, 709, 710] (by decide +kernel) (by decide +kernel)
set_option maxRecDepth 20000 in
theorem gL_law_X9_ask : GoodIn wsL_law (wsV RL 125 RX9 yX9_ask wsX9_ask) := goodIn_app (goodIn_of _ (by decide +kernel)) ggL_law_X9_ask
set_option maxRecDepth 20000 in
theorem ggL_law_X8_slips : GoodIn wsL_law wsX8_slips := goodIn_r _ [731, 686, 90, 91, 2, 92, 732, 733, 692, 734, 735, 736, 737, 722, 691, 693, 690, 694, 695, 696, 697, 698, 699] (by decide +kernel) (by decide +kernel)
set_option maxRecDepth 20000 in
theorem gL_law_X8_slips : GoodIn wsL_law (wsV RL 126 RX8 yX8_slips wsX8_slips) := goodIn_app (goodIn_of _ (by decide +kernel)) ggL_law_X8_slips
set_option maxRecDepth 20000 in
theorem ggL_law_X9_slips : GoodIn wsL_law wsX9_slips := goodIn_r _ [741, 704, 742, 743, 5, 744, 120, 121, 122, 708, 709, 710, 711, 712, 713] (by decide +kernel) (by decide +kernel)
set_option maxRecDepth 20000 in
theorem gL_law_X9_slips : GoodIn wsL_law (wsV RL 129 RX9 yX9_slips wsX9_slips) := goodIn_app (goodIn_of _ (by decide +kernel)) ggL_law_X9_slips
set_option maxRecDepth 20000 in
theorem ggL_law_X8_drawn : GoodIn wsL_law wsX8_drawn := goodIn_r _ [748, 502, 90, 91, 2, 92, 749, 750, 692, 751, 752, 753] (by decide +kernel) (by decide +kernel)
set_option maxRecDepth 20000 in
theorem gL_law_X8_drawn : GoodIn wsL_law (wsV RL 130 RX8 yX8_drawn wsX8_drawn) := goodIn_app (goodIn_of _ (by decide +kernel)) ggL_law_X8_drawn
set_option maxRecDepth 20000 in
theorem ggL_law_X9_drawn : GoodIn wsL_law wsX9_drawn := goodIn_r _ [757, 528, 758, 759, 120, 121, 5, 122, 742, 743, 744] (by decide +kernel) (by decide +kernel)
set_option maxRecDepth 20000 in
theorem gL_law_X9_drawn : GoodIn wsL_law (wsV RL 133 RX9 yX9_drawn wsX9_drawn) := goodIn_app (goodIn_of _ (by decide +kernel)) ggL_law_X9_drawn
set_option maxRecDepth 20000 in
theorem ggL_law_X8_sure : GoodIn wsL_law wsX8_sure := goodIn_r _ [763, 90, 91, 2, 92, 764, 736, 692, 737, 718, 719, 720, 721, 722, 691, 693] (by decide +kernel) (by decide +kernel)
set_option maxRecDepth 20000 in
theorem gL_law_X8_sure : GoodIn wsL_law (wsV RL 134 RX8 yX8_sure wsX8_sure) := goodIn_app (goodIn_of _ (by decide +kernel)) ggL_law_X8_sure
set_option maxRecDepth 20000 in
theorem ggL_law_X9_sure : GoodIn wsL_law wsX9_sure := goodIn_r _ [768, 727, 742, 743, 5, 744, 120, 121, 122, 708, 709, 710] (by decide +kernel) (by decide +kernel)
set_option maxRecDepth 20000 in
theorem gL_law_X9_sure : GoodIn wsL_law (wsV RL 137 RX9 yX9_sure wsX9_sure) := goodIn_app (goodIn_of _ (by decide +kernel)) ggL_law_X9_sure
set_option maxRecDepth 20000 in
theorem ggL_law_X8_told : GoodIn wsL_law wsX8_told := goodIn_r _ [772, 686, 773, 774, 775, 2, 776, 90, 91, 92, 777, 778, 779, 694, 695, 692, 696, 697, 698, 699] (by decide +kernel) (by decide +kernel)
set_option maxRecDepth 20000 in
theorem gL_law_X8_told : GoodIn wsL_law (wsV RL 138 RX8 yX8_told wsX8_told) := goodIn_app (goodIn_of _ (by decide +kernel)) ggL_law_X8_told
set_option maxRecDepth 20000 in
theorem ggL_law_X9_told : GoodIn wsL_law wsX9_told := goodIn_r _ [783, 704, 784, 785, 786, 5, 787, 120, 121, 122, 711, 712, 713] (by decide +kernel) (by decide +kernel)
set_option maxRecDepth 20000 in
theorem gL_law_X9_told : GoodIn wsL_law (wsV RL 142 RX9 yX9_told wsX9_told) := goodIn_app (goodIn_of _ (by decide +kernel)) ggL_law_X9_told
set_option maxRecDepth 20000 in
theorem ggL_law_X8_forced : GoodIn wsL_law wsX8_forced := goodIn_r _ [791, 792, 793, 794, 795, 774, 775, 2, 776, 90, 91, 92, 777, 778, 779] (by decide +kernel) (by decide +kernel)
set_option maxRecDepth 20000 in
theorem gL_law_X8_forced : GoodIn wsL_law (wsV RL 143 RX8 yX8_forced wsX8_forced) := goodIn_app (goodIn_of _ (by decide +kernel)) ggL_law_X8_forced
set_option maxRecDepth 20000 in
theorem ggL_law_X9_forced : GoodIn wsL_law wsX9_forced := goodIn_r _ [799, 785, 786, 5, 787, 120, 121, 122] (by decide +kernel) (by decide +kernel)
set_option maxRecDepth 20000 in
theorem gL_law_X9_forced : GoodIn wsL_law (wsV RL 146 RX9 yX9_forced wsX9_forced) := goodIn_app (goodIn_of _ (by decide +kernel)) ggL_law_X9_forced
set_option maxRecDepth 20000 in
theorem ggL_law_X8_count : GoodIn wsL_law wsX8_count := goodIn_r _ [803, 27, 23, 15, 90, 91, 2, 92, 645, 646, 647, 26, 648, 65, 644, 568, 569, 570, 571, 67, 572, 61, 573, 574, 542, 543, 544, 63, 575, 459, 460, 22, 461, 49, 365, 366, 367, 368, 45, 462, 463, 464, 48, 465, 56, 55, 420, 421, 422, 423, 424, 425, 426, 427, 428, 466, 467, 468, 576, 577, 578, 579, 96, 97, 98, 99, 380, 381, 382, 383, 50, 388, 389, 390, 391, 111, 112, 113, 14, 114, 36, 254, 255, 256, 257, 32, 804, 805, 806, 807, 661, 662, 663, 664, 66, 816, 817, 818, 819, 850, 851, 852, 853, 854, 855, 858, 859, 860, 861, 862, 863, 847, 848, 849, 856, 857, 838, 839, 840, 841, 842] (by decide +kernel) (by decide +kernel)
set_option maxRecDepth 20000 in
theorem gL_law_X8_count : GoodIn wsL_law (wsV RL 147 RX8 yX8_count wsX8_count) := goodIn_app (goodIn_of _ (by decide +kernel)) ggL_law_X8_count
set_option maxRecDepth 20000 in
theorem ggL_law_X9_count : GoodIn wsL_law wsX9_count := goodIn_r _ [811, 119, 396, 72, 77, 669, 120, 121, 5, 122, 812, 813, 814, 815, 602, 603, 604, 605, 78, 606, 607, 608, 609, 81, 79, 80, 84, 350, 351, 352, 353, 323, 196, 197, 198, 199, 200, 201, 130, 131, 132, 133, 134, 135, 123, 124, 125, 324, 325, 326, 327, 328, 242, 329, 330, 331, 275, 276, 277, 178, 179, 180, 181, 332, 333, 334, 335, 126, 127, 128, 129, 73, 473, 474, 475, 476, 453, 76, 74, 820, 821, 822, 823, 824, 825, 826, 827, 828, 829, 830, 831, 832, 833, 834, 835, 836, 837] (by decide +kernel) (by decide +kernel)
set_option maxRecDepth 20000 in
theorem gL_law_X9_count : GoodIn wsL_law (wsV RL 150 RX9 yX9_count wsX9_count) := goodIn_app (goodIn_of _ (by decide +kernel)) ggL_law_X9_count
