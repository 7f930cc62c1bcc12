set_option maxRecDepth 100000 in
theorem ggL_law_X5_init : GoodIn wsL_law wsX5_init := goodIn_r _ [8, 9, 10, 11, 12, 13, 14, 15, 16, 17, 18, 19, 20, 21, 22, 23, 24, 25, 26, 27, 28, 29, 30, 31, 32, 33, 34, 35, 36, 37, 38, 39, 40, 41, 42, 43, 44, 45, 46, 47, 48, 49, 50, 51, 52, 53, 54, 55, 56, 57, 58, 59, 60, 61, 62, 63, 64, 65, 66, 67, 68, 69, 70, 71, 72, 73, 74, 75, 76, 77, 78, 79, 80, 81, 82, 83, 84, 821, 822, 823, 824, 825, 826, 827, 828, 829, 830, 831, 832, 833, 834, 835, 836, 801, 802, 803, 804, 805, 806, 807, 808, 837, 838, 839, 840, 841, 842, 843, 844, 845, 846, 847, 848, 849, 850, 851] rfl (by decide +kernel)
set_option maxRecDepth 100000 in
theorem gL_law_X5_init : GoodIn wsL_law (wsX5_init) := ggL_law_X5_init
set_option maxRecDepth 100000 in
theorem ggL_law_X6_init : GoodIn wsL_law wsX6_init := goodIn_r _ [87, 88, 10, 11, 57, 89, 90, 91, 92, 93, 94, 95, 5, 96, 97, 98, 99, 100, 809, 810, 811, 812, 813, 814, 815, 816, 817, 818, 819, 820] rfl (by decide +kernel)
set_option maxRecDepth 100000 in
theorem gL_law_X6_init : GoodIn wsL_law (wsX6_init) := ggL_law_X6_init
set_option maxRecDepth 100000 in
theorem ggL_law_X5_setUp : GoodIn wsL_law wsX5_setUp := goodIn_r _ [104, 26, 15, 105, 106, 2, 107, 108, 109, 110, 25, 111, 112, 113, 114, 115, 55, 116, 117, 118, 119, 120, 76, 121, 122, 123, 14, 124, 36, 37, 38, 39, 125, 126, 127, 128, 129, 130, 43, 44, 45, 46, 47, 48, 131, 132, 133, 42, 134, 58, 135, 136, 137, 138, 139, 140, 141, 142, 143, 144, 145, 146, 147, 148, 149, 150, 151, 152, 153, 154, 155, 59, 60, 61, 62, 801, 802, 803, 804, 805, 806, 807, 808, 842, 843, 844, 821, 822, 823, 824, 825, 826, 827, 828, 829, 830, 831, 832, 833, 834, 835, 836, 851] rfl (by decide +kernel)
set_option maxRecDepth 100000 in
theorem gL_law_X5_setUp : GoodIn wsL_law (wsV RL 13 RX5 yX5_setUp wsX5_setUp) := goodIn_app (goodIn_of _ (by decide +kernel)) ggL_law_X5_setUp
set_option maxRecDepth 100000 in
theorem ggL_law_X6_setUp : GoodIn wsL_law wsX6_setUp := goodIn_r _ [159, 89, 160, 161, 5, 162, 163, 164, 165, 166, 167, 168, 169, 170, 171, 172, 173, 174, 175, 176, 177, 178, 93, 94, 95, 96, 97, 98, 99, 100, 179, 180, 181, 182, 183, 809, 810, 811, 812, 813, 814, 815, 816, 817, 818, 819, 820] rfl (by decide +kernel)
set_option maxRecDepth 100000 in
theorem gL_law_X6_setUp : GoodIn wsL_law (wsV RL 17 RX6 yX6_setUp wsX6_setUp) := goodIn_app (goodIn_of _ (by decide +kernel)) ggL_law_X6_setUp
set_option maxRecDepth 100000 in
theorem ggL_law_X5_setChoiceRule : GoodIn wsL_law wsX5_setChoiceRule := goodIn_r _ [187, 15, 188, 26, 105, 106, 2, 107, 108, 109, 110, 25, 111, 112, 113, 114, 115, 55, 116, 117, 118, 119, 120, 76, 121, 122, 123, 14, 124, 36, 37, 38, 39, 125, 126, 127, 128, 129, 130, 43, 44, 45, 46, 47, 48, 131, 132, 133, 42, 134, 58, 135, 136, 137, 138, 139, 801, 802, 803, 804, 805, 806, 807, 808, 821, 822, 823, 824, 825, 826, 827, 828, 829, 830, 831, 832, 833, 834, 835, 836, 842, 843, 844, 851] rfl (by decide +kernel)
set_option maxRecDepth 100000 in
theorem gL_law_X5_setChoiceRule : GoodIn wsL_law (wsV RL 18 RX5 yX5_setChoiceRule wsX5_setChoiceRule) := goodIn_app (goodIn_of _ (by decide +kernel)) ggL_law_X5_setChoiceRule
set_option maxRecDepth 100000 in
theorem ggL_law_X6_setChoiceRule : GoodIn wsL_law wsX6_setChoiceRule := goodIn_r _ [192, 193, 194, 195, 5, 196, 89, 160, 161, 162, 163, 164, 165, 166, 179, 180, 181, 182, 183, 809, 810, 811, 812, 813, 814, 815, 816, 817, 818, 819, 820] rfl (by decide +kernel)
set_option maxRecDepth 100000 in
theorem gL_law_X6_setChoiceRule : GoodIn wsL_law (wsV RL 22 RX6 yX6_setChoiceRule wsX6_setChoiceRule) := goodIn_app (goodIn_of _ (by decide +kernel)) ggL_law_X6_setChoiceRule
set_option maxRecDepth 100000 in
theorem ggL_law_X5_setPairRule : GoodIn wsL_law wsX5_setPairRule := goodIn_r _ [200, 15, 201, 26, 105, 106, 2, 107, 108, 109, 110, 25, 111, 112, 113, 114, 115, 55, 116, 117, 118, 119, 120, 76, 121, 122, 123, 14, 124, 36, 37, 38, 39, 125, 126, 127, 128, 129, 130, 43, 44, 45, 46, 47, 48, 131, 132, 133, 42, 134, 58, 135, 136, 137, 138, 139, 801, 802, 803, 804, 805, 806, 807, 808, 821, 822, 823, 824, 825, 826, 827, 828, 829, 830, 831, 832, 833, 834, 835, 836, 842, 843, 844, 851] rfl (by decide +kernel)
set_option maxRecDepth 100000 in
theorem gL_law_X5_setPairRule : GoodIn wsL_law (wsV RL 23 RX5 yX5_setPairRule wsX5_setPairRule) := goodIn_app (goodIn_of _ (by decide +kernel)) ggL_law_X5_setPairRule
set_option maxRecDepth 100000 in
theorem ggL_law_X6_setPairRule : GoodIn wsL_law wsX6_setPairRule := goodIn_r _ [205, 193, 194, 195, 5, 196, 89, 160, 161, 162, 163, 164, 165, 166, 179, 180, 181, 182, 183, 809, 810, 811, 812, 813, 814, 815, 816, 817, 818, 819, 820] rfl (by decide +kernel)
set_option maxRecDepth 100000 in
theorem gL_law_X6_setPairRule : GoodIn wsL_law (wsV RL 26 RX6 yX6_setPairRule wsX6_setPairRule) := goodIn_app (goodIn_of _ (by decide +kernel)) ggL_law_X6_setPairRule
set_option maxRecDepth 100000 in
theorem ggL_law_X5_connect : GoodIn wsL_law wsX5_connect := goodIn_r _ [209, 16, 15, 22, 210, 122, 123, 14, 124, 36, 37, 38, 39, 125, 126, 127, 128, 129, 130, 43, 44, 45, 46, 47, 48, 131, 132, 133, 42, 134, 58, 135, 115, 55, 116, 136, 137, 138, 139, 211, 212, 213, 21, 214, 215, 216, 217, 218, 219, 220, 221, 222, 223, 224, 225, 226, 148, 149, 150, 151, 227, 228, 229, 230, 231, 232, 233, 234, 235, 236, 237, 238, 239, 240, 241, 242, 243, 244, 245, 246, 247, 2, 248, 249, 250, 251, 252, 253, 254, 255, 256, 257, 258, 259, 260, 261, 262, 263, 264, 265, 266, 267, 268, 269, 68, 270, 271, 272, 273, 274, 275, 276, 277, 278, 279, 280, 281, 282, 283, 284, 285, 286, 287, 288, 289, 290, 291, 292, 293, 294, 295, 296, 297, 298, 26, 108, 109, 110, 25, 111, 112, 113, 114, 117, 118, 119, 120, 76, 121, 801, 802, 803, 804, 805, 806, 807, 808, 821, 822, 823, 824, 825, 826, 827, 828, 829, 830, 831, 832, 833, 834, 835, 836, 851, 837, 838, 839, 840, 841, 842, 843, 844] rfl (by decide +kernel)
set_option maxRecDepth 100000 in
theorem gL_law_X5_connect : GoodIn wsL_law (wsV RL 27 RX5 yX5_connect wsX5_connect) := goodIn_app (goodIn_of _ (by decide +kernel)) ggL_law_X5_connect
set_option maxRecDepth 100000 in
theorem ggL_law_X6_connect : GoodIn wsL_law wsX6_connect := goodIn_r _ [302, 163, 164, 165, 5, 166, 89, 303, 304, 305, 306, 307, 308, 309, 310, 171, 172, 173, 174, 160, 161, 162, 175, 176, 177, 178, 311, 312, 313, 314, 97, 98, 99, 100, 315, 316, 317, 318, 319, 91, 320, 321, 322, 323, 324, 325, 326, 327, 328, 329, 330, 331, 332, 333, 334, 335, 336, 337, 338, 339, 340, 341, 342, 343, 344, 345, 346, 347, 348, 349, 350, 351, 352, 353, 354, 355, 356, 357, 179, 180, 181, 182, 183, 809, 810, 811, 812, 813, 814, 815, 816, 817, 818, 819, 820] rfl (by decide +kernel)
set_option maxRecDepth 100000 in
theorem gL_law_X6_connect : GoodIn wsL_law (wsV RL 31 RX6 yX6_connect wsX6_connect) := goodIn_app (goodIn_of _ (by decide +kernel)) ggL_law_X6_connect
set_option maxRecDepth 100000 in
theorem ggL_law_X5_disconnect : GoodIn wsL_law wsX5_disconnect := goodIn_r _ [361, 16, 15, 22, 210, 122, 123, 14, 124, 36, 37, 38, 39, 125, 126, 127, 128, 129, 130, 43, 44, 45, 46, 47, 48, 131, 132, 133, 42, 134, 58, 135, 115, 55, 116, 136, 137, 138, 139, 362, 363, 364, 21, 365, 366, 367, 219, 220, 221, 222, 223, 224, 225, 226, 148, 149, 150, 151, 271, 368, 369, 370, 371, 372, 287, 288, 289, 290, 240, 241, 242, 247, 2, 248, 280, 273, 274, 275, 295, 296, 297, 298, 26, 108, 109, 110, 25, 111, 112, 113, 114, 117, 118, 119, 120, 76, 121, 801, 802, 803, 804, 805, 806, 807, 808, 821, 822, 823, 824, 825, 826, 827, 828, 829, 830, 831, 832, 833, 834, 835, 836, 851, 842, 843, 844] rfl (by decide +kernel)
set_option maxRecDepth 100000 in
theorem gL_law_X5_disconnect : GoodIn wsL_law (wsV RL 32 RX5 yX5_disconnect wsX5_disconnect) := goodIn_app (goodIn_of _ (by decide +kernel)) ggL_law_X5_disconnect
set_option maxRecDepth 100000 in
theorem ggL_law_X6_disconnect : GoodIn wsL_law wsX6_disconnect := goodIn_r _ [376, 163, 164, 165, 5, 166, 89, 377, 378, 379, 380, 307, 308, 309, 310, 171, 172, 173, 174, 160, 161, 162, 175, 176, 177, 178, 97, 98, 99, 100, 179, 180, 181, 182, 183, 809, 810, 811, 812, 813, 814, 815, 816, 817, 818, 819, 820] rfl (by decide +kernel)
set_option maxRecDepth 100000 in
theorem gL_law_X6_disconnect : GoodIn wsL_law (wsV RL 35 RX6 yX6_disconnect wsX6_disconnect) := goodIn_app (goodIn_of _ (by decide +kernel)) ggL_law_X6_disconnect
set_option maxRecDepth 100000 in
theorem ggL_law_X5_takeOut : GoodIn wsL_law wsX5_takeOut := goodIn_r _ [384, 16, 15, 22, 210, 122, 123, 14, 124, 36, 37, 38, 39, 125, 126, 127, 128, 129, 130, 43, 44, 45, 46, 47, 48, 131, 132, 133, 42, 134, 58, 135, 115, 55, 116, 136, 137, 138, 139, 385, 386, 387, 21, 388, 389, 390, 391, 392, 393, 394, 254, 2, 255, 271, 149, 150, 151, 286, 287, 288, 289, 148, 290, 240, 241, 242, 247, 248, 280, 273, 274, 275, 395, 396, 397, 398, 270, 285, 399, 400, 401, 402, 403, 404, 224, 225, 226, 231, 232, 233, 234, 235, 236, 237, 238, 239, 243, 244, 245, 246, 249, 250, 251, 252, 253, 256, 257, 258, 259, 260, 261, 262, 263, 264, 265, 266, 267, 268, 269, 68, 272, 368, 369, 370, 371, 372, 281, 282, 283, 284, 291, 292, 293, 294, 295, 296, 297, 298, 26, 108, 109, 110, 25, 111, 112, 113, 114, 117, 118, 119, 120, 76, 121, 801, 802, 803, 804, 805, 806, 807, 808, 821, 822, 823, 824, 825, 826, 827, 828, 829, 830, 831, 832, 833, 834, 835, 836, 851, 837, 838, 839, 840, 841, 842, 843, 844] rfl (by decide +kernel)
set_option maxRecDepth 100000 in
theorem gL_law_X5_takeOut : GoodIn wsL_law (wsV RL 36 RX5 yX5_takeOut wsX5_takeOut) := goodIn_app (goodIn_of _ (by decide +kernel)) ggL_law_X5_takeOut
set_option maxRecDepth 100000 in
theorem ggL_law_X6_takeOut : GoodIn wsL_law wsX6_takeOut := goodIn_r _ [408, 163, 164, 165, 5, 166, 89, 409, 410, 411, 412, 413, 414, 415, 416, 160, 161, 162, 324, 325, 326, 171, 172, 173, 174, 175, 176, 177, 178, 97, 98, 99, 100, 417, 418, 419, 420, 315, 316, 317, 318, 319, 91, 320, 321, 322, 323, 327, 328, 329, 330, 331, 332, 333, 334, 335, 336, 337, 338, 339, 340, 341, 342, 343, 344, 345, 346, 347, 348, 349, 350, 351, 352, 353, 354, 355, 356, 357, 179, 180, 181, 182, 183, 809, 810, 811, 812, 813, 814, 815, 816, 817, 818, 819, 820] rfl (by decide +kernel)
set_option maxRecDepth 100000 in
theorem gL_law_X6_takeOut : GoodIn wsL_law (wsV RL 39 RX6 yX6_takeOut wsX6_takeOut) := goodIn_app (goodIn_of _ (by decide +kernel)) ggL_law_X6_takeOut
set_option maxRecDepth 100000 in
theorem ggL_law_X5_putBack : GoodIn wsL_law wsX5_putBack := goodIn_r _ [424, 16, 15, 22, 210, 122, 123, 14, 124, 36, 37, 38, 39, 125, 126, 127, 128, 129, 130, 43, 44, 45, 46, 47, 48, 131, 132, 133, 42, 134, 58, 135, 115, 55, 116, 136, 137, 138, 139, 425, 426, 427, 21, 428, 389, 391, 392, 393, 394, 254, 2, 255, 429, 430, 431, 432, 433, 434, 435, 295, 296, 297, 298, 26, 108, 109, 110, 25, 111, 112, 113, 114, 117, 118, 119, 120, 76, 121, 801, 802, 803, 804, 805, 806, 807, 808, 821, 822, 823, 824, 825, 826, 827, 828, 829, 830, 831, 832, 833, 834, 835, 836, 851, 842, 843, 844] rfl (by decide +kernel)
set_option maxRecDepth 100000 in
theorem gL_law_X5_putBack : GoodIn wsL_law (wsV RL 40 RX5 yX5_putBack wsX5_putBack) := goodIn_app (goodIn_of _ (by decide +kernel)) ggL_law_X5_putBack
set_option maxRecDepth 100000 in
theorem ggL_law_X6_putBack : GoodIn wsL_law wsX6_putBack := goodIn_r _ [439, 163, 164, 165, 5, 166, 89, 440, 441, 442, 443, 413, 414, 415, 416, 160, 161, 162, 324, 325, 326, 444, 445, 446, 179, 180, 181, 182, 183, 809, 810, 811, 812, 813, 814, 815, 816, 817, 818, 819, 820] rfl (by decide +kernel)
set_option maxRecDepth 100000 in
theorem gL_law_X6_putBack : GoodIn wsL_law (wsV RL 43 RX6 yX6_putBack wsX6_putBack) := goodIn_app (goodIn_of _ (by decide +kernel)) ggL_law_X6_putBack
set_option maxRecDepth 100000 in
theorem ggL_law_X5_pack : GoodIn wsL_law wsX5_pack := goodIn_r _ [450, 16, 15, 22, 210, 122, 123, 14, 124, 36, 37, 38, 39, 125, 126, 127, 128, 129, 130, 43, 44, 45, 46, 47, 48, 131, 132, 133, 42, 134, 58, 135, 115, 55, 116, 136, 137, 138, 139, 451, 452, 453, 21, 454, 389, 285, 69, 390, 455, 145, 146, 147, 148, 149, 150, 151, 456, 457, 458, 459, 460, 54, 56, 404, 224, 225, 226, 461, 228, 229, 230, 462, 463, 464, 254, 2, 255, 465, 286, 287, 288, 289, 290, 240, 241, 242, 247, 248, 280, 273, 274, 275, 395, 396, 397, 398, 270, 399, 400, 401, 402, 403, 271, 231, 232, 233, 234, 235, 236, 237, 238, 239, 243, 244, 245, 246, 249, 250, 251, 252, 253, 256, 257, 258, 259, 260, 261, 262, 263, 264, 265, 266, 267, 268, 269, 68, 272, 368, 369, 370, 371, 372, 281, 282, 283, 284, 291, 292, 293, 294, 466, 467, 468, 469, 295, 296, 297, 298, 26, 108, 109, 110, 25, 111, 112, 113, 114, 117, 118, 119, 120, 76, 121, 801, 802, 803, 804, 805, 806, 807, 808, 821, 822, 823, 824, 825, 826, 827, 828, 829, 830, 831, 832, 833, 834, 835, 836, 851, 837, 838, 839, 840, 841, 842, 843, 844] rfl (by decide +kernel)
set_option maxRecDepth 100000 in
theorem gL_law_X5_pack : GoodIn wsL_law (wsV RL 44 RX5 yX5_pack wsX5_pack) := goodIn_app (goodIn_of _ (by decide +kernel)) ggL_law_X5_pack
set_option maxRecDepth 100000 in
theorem ggL_law_X6_pack : GoodIn wsL_law wsX6_pack := goodIn_r _ [473, 163, 164, 165, 5, 166, 89, 474, 475, 476, 477, 92, 167, 168, 169, 170, 171, 172, 173, 174, 175, 176, 177, 178, 478, 479, 480, 481, 324, 325, 326, 444, 445, 446, 97, 98, 99, 100, 417, 418, 419, 420, 315, 316, 317, 318, 319, 91, 320, 321, 322, 323, 327, 328, 329, 330, 331, 332, 333, 334, 335, 336, 337, 338, 339, 340, 341, 342, 343, 344, 345, 346, 347, 348, 349, 350, 351, 352, 353, 354, 355, 356, 357, 179, 180, 181, 182, 183, 809, 810, 811, 812, 813, 814, 815, 816, 817, 818, 819, 820] rfl (by decide +kernel)
set_option maxRecDepth 100000 in
theorem gL_law_X6_pack : GoodIn wsL_law (wsV RL 48 RX6 yX6_pack wsX6_pack) := goodIn_app (goodIn_of _ (by decide +kernel)) ggL_law_X6_pack
set_option maxRecDepth 100000 in
theorem ggL_law_X5_type : GoodIn wsL_law wsX5_type := goodIn_r _ [485, 30, 486, 487, 488, 29, 489, 490, 83, 491, 273, 274, 42, 275, 58, 801, 802, 803, 804, 805, 806, 807, 808, 845, 846, 847, 848, 849, 850, 851] rfl (by decide +kernel)
set_option maxRecDepth 100000 in
theorem gL_law_X5_type : GoodIn wsL_law (wsV RL 49 RX5 yX5_type wsX5_type) := goodIn_app (goodIn_of _ (by decide +kernel)) ggL_law_X5_type
set_option maxRecDepth 100000 in
theorem ggL_law_X6_type : GoodIn wsL_law wsX6_type := goodIn_r _ [495, 496, 90, 809, 810, 811, 812, 813, 814, 815, 816, 817, 818, 819, 820] rfl (by decide +kernel)
set_option maxRecDepth 100000 in
theorem gL_law_X6_type : GoodIn wsL_law (wsV RL 53 RX6 yX6_type wsX6_type) := goodIn_app (goodIn_of _ (by decide +kernel)) ggL_law_X6_type
set_option maxRecDepth 100000 in
theorem ggL_law_X5_clearText : GoodIn wsL_law wsX5_clearText := goodIn_r _ [500, 30, 501, 801, 802, 803, 804, 805, 806, 807, 808, 845, 846, 847, 848, 849, 850] rfl (by decide +kernel)
set_option maxRecDepth 100000 in
theorem gL_law_X5_clearText : GoodIn wsL_law (wsV RL 54 RX5 yX5_clearText wsX5_clearText) := goodIn_app (goodIn_of _ (by decide +kernel)) ggL_law_X5_clearText
set_option maxRecDepth 100000 in
theorem ggL_law_X6_clearText : GoodIn wsL_law wsX6_clearText := goodIn_r _ [505, 496, 809, 810, 811, 812, 813, 814, 815, 816, 817, 818, 819, 820] rfl (by decide +kernel)
set_option maxRecDepth 100000 in
theorem gL_law_X6_clearText : GoodIn wsL_law (wsV RL 57 RX6 yX6_clearText wsX6_clearText) := goodIn_app (goodIn_of _ (by decide +kernel)) ggL_law_X6_clearText
set_option maxRecDepth 100000 in
theorem ggL_law_X5_perform : GoodIn wsL_law wsX5_perform := goodIn_r _ [509, 30, 16, 15, 510, 511, 512, 29, 513, 514, 490, 515, 516, 517, 518, 519, 520, 521, 522, 523, 524, 525, 526, 527, 528, 529, 83, 530, 149, 150, 42, 151, 58, 531, 532, 533, 534, 535, 54, 55, 56, 536, 537, 538, 539, 210, 122, 123, 14, 124, 36, 37, 38, 39, 125, 126, 127, 128, 129, 130, 43, 44, 45, 46, 47, 48, 131, 132, 133, 134, 135, 115, 116, 136, 137, 138, 139, 540, 541, 542, 543, 544, 2, 545, 546, 22, 547, 548, 211, 212, 213, 21, 214, 215, 216, 217, 218, 219, 220, 221, 222, 223, 224, 225, 226, 148, 227, 228, 229, 230, 231, 232, 233, 234, 235, 236, 237, 238, 239, 240, 241, 242, 243, 244, 245, 246, 247, 248, 249, 250, 251, 252, 253, 254, 255, 256, 257, 258, 259, 260, 261, 262, 263, 264, 265, 266, 267, 268, 269, 68, 270, 271, 272, 273, 274, 275, 276, 277, 278, 279, 280, 281, 282, 283, 284, 285, 286, 287, 288, 289, 290, 291, 292, 293, 294, 362, 363, 364, 365, 366, 367, 368, 369, 370, 371, 372, 385, 386, 387, 388, 389, 390, 391, 392, 393, 394, 395, 396, 397, 398, 399, 400, 401, 402, 403, 404, 425, 426, 427, 428, 429, 430, 431, 432, 433, 434, 435, 451, 452, 453, 454, 69, 455, 145, 146, 147, 456, 457, 458, 459, 460, 461, 462, 463, 464, 465, 466, 467, 468, 469, 549, 295, 296, 297, 298, 26, 108, 109, 110, 25, 111, 112, 113, 114, 117, 118, 119, 120, 76, 121, 801, 802, 803, 804, 805, 806, 807, 808, 845, 846, 847, 848, 849, 850, 851, 821, 822, 823, 824, 825, 826, 827, 828, 829, 830, 831, 832, 833, 834, 835, 836, 837, 838, 839, 840, 841, 842, 843, 844] rfl (by decide +kernel)
set_option maxRecDepth 100000 in
theorem gL_law_X5_perform : GoodIn wsL_law (wsV RL 58 RX5 yX5_perform wsX5_perform) := goodIn_app (goodIn_of _ (by decide +kernel)) ggL_law_X5_perform
set_option maxRecDepth 100000 in
theorem ggL_law_X6_perform : GoodIn wsL_law wsX6_perform := goodIn_r _ [553, 554, 555, 556, 557, 5, 558, 496, 559, 560, 561, 562, 563, 564, 565, 566, 567, 568, 569, 570, 571, 572, 573, 90, 160, 161, 162, 574, 575, 576, 577, 578, 579, 580, 581, 163, 164, 165, 166, 89, 582, 583, 584, 585, 303, 304, 305, 306, 307, 308, 309, 310, 171, 172, 173, 174, 175, 176, 177, 178, 311, 312, 313, 314, 97, 98, 99, 100, 315, 316, 317, 318, 319, 91, 320, 321, 322, 323, 324, 325, 326, 327, 328, 329, 330, 331, 332, 333, 334, 335, 336, 337, 338, 339, 340, 341, 342, 343, 344, 345, 346, 347, 348, 349, 350, 351, 352, 353, 354, 355, 356, 357, 377, 378, 379, 380, 409, 410, 411, 412, 413, 414, 415, 416, 417, 418, 419, 420, 440, 441, 442, 443, 444, 445, 446, 474, 475, 476, 477, 92, 167, 168, 169, 170, 478, 479, 480, 481, 179, 180, 181, 182, 183, 809, 810, 811, 812, 813, 814, 815, 816, 817, 818, 819, 820] rfl (by decide +kernel)
set_option maxRecDepth 100000 in
theorem gL_law_X6_perform : GoodIn wsL_law (wsV RL 61 RX6 yX6_perform wsX6_perform) := goodIn_app (goodIn_of _ (by decide +kernel)) ggL_law_X6_perform
set_option maxRecDepth 100000 in
theorem ggL_law_X5_undo : GoodIn wsL_law wsX5_undo := goodIn_r _ [589, 26, 15, 590, 591, 592, 25, 593, 113, 112, 117, 118, 119, 120, 76, 121, 122, 123, 14, 124, 36, 37, 38, 39, 125, 126, 127, 128, 129, 130, 43, 44, 45, 46, 47, 48, 131, 132, 133, 42, 134, 58, 135, 115, 55, 116, 136, 137, 138, 139, 801, 802, 803, 804, 805, 806, 807, 808, 842, 843, 844, 821, 822, 823, 824, 825, 826, 827, 828, 829, 830, 831, 832, 833, 834, 835, 836, 851] rfl (by decide +kernel)
set_option maxRecDepth 100000 in
theorem gL_law_X5_undo : GoodIn wsL_law (wsV RL 62 RX5 yX5_undo wsX5_undo) := goodIn_app (goodIn_of _ (by decide +kernel)) ggL_law_X5_undo
set_option maxRecDepth 100000 in
theorem ggL_law_X6_undo : GoodIn wsL_law wsX6_undo := goodIn_r _ [597, 183, 163, 164, 165, 5, 166, 89, 809, 810, 811, 812, 813, 814, 815, 816, 817, 818, 819, 820] rfl (by decide +kernel)
set_option maxRecDepth 100000 in
theorem gL_law_X6_undo : GoodIn wsL_law (wsV RL 65 RX6 yX6_undo wsX6_undo) := goodIn_app (goodIn_of _ (by decide +kernel)) ggL_law_X6_undo
set_option maxRecDepth 100000 in
theorem ggL_law_X5_keep : GoodIn wsL_law wsX5_keep := goodIn_r _ [601, 17, 15, 31, 210, 122, 123, 14, 124, 36, 37, 38, 39, 125, 126, 127, 128, 129, 130, 43, 44, 45, 46, 47, 48, 131, 132, 133, 42, 134, 58, 135, 115, 55, 116, 136, 137, 138, 139, 602, 145, 146, 147, 148, 149, 150, 151, 801, 802, 803, 804, 805, 806, 807, 808, 821, 822, 823, 824, 825, 826, 827, 828, 829, 830, 831, 832, 833, 834, 835, 836, 851] rfl (by decide +kernel)
set_option maxRecDepth 100000 in
theorem gL_law_X5_keep : GoodIn wsL_law (wsV RL 66 RX5 yX5_keep wsX5_keep) := goodIn_app (goodIn_of _ (by decide +kernel)) ggL_law_X5_keep
set_option maxRecDepth 100000 in
theorem ggL_law_X6_keep : GoodIn wsL_law wsX6_keep := goodIn_r _ [606, 607, 163, 164, 165, 5, 166, 89, 167, 168, 169, 170, 171, 172, 173, 174, 175, 176, 177, 178, 809, 810, 811, 812, 813, 814, 815, 816, 817, 818, 819, 820] rfl (by decide +kernel)
set_option maxRecDepth 100000 in
theorem gL_law_X6_keep : GoodIn wsL_law (wsV RL 69 RX6 yX6_keep wsX6_keep) := goodIn_app (goodIn_of _ (by decide +kernel)) ggL_law_X6_keep
set_option maxRecDepth 100000 in
theorem ggL_law_X5_restore : GoodIn wsL_law wsX5_restore := goodIn_r _ [611, 31, 26, 15, 17, 108, 109, 110, 25, 111, 112, 113, 114, 115, 55, 116, 117, 118, 119, 120, 76, 121, 122, 123, 14, 124, 36, 37, 38, 39, 125, 126, 127, 128, 129, 130, 43, 44, 45, 46, 47, 48, 131, 132, 133, 42, 134, 58, 135, 136, 137, 138, 139, 210, 602, 145, 146, 147, 148, 149, 150, 151, 801, 802, 803, 804, 805, 806, 807, 808, 842, 843, 844, 821, 822, 823, 824, 825, 826, 827, 828, 829, 830, 831, 832, 833, 834, 835, 836, 851] rfl (by decide +kernel)
set_option maxRecDepth 100000 in
theorem gL_law_X5_restore : GoodIn wsL_law (wsV RL 70 RX5 yX5_restore wsX5_restore) := goodIn_app (goodIn_of _ (by decide +kernel)) ggL_law_X5_restore
set_option maxRecDepth 100000 in
theorem ggL_law_X6_restore : GoodIn wsL_law wsX6_restore := goodIn_r _ [615, 607, 163, 164, 165, 5, 166, 89, 167, 168, 169, 170, 171, 172, 173, 174, 175, 176, 177, 178, 179, 180, 181, 182, 183, 809, 810, 811, 812, 813, 814, 815, 816, 817, 818, 819, 820] rfl (by decide +kernel)
set_option maxRecDepth 100000 in
theorem gL_law_X6_restore : GoodIn wsL_law (wsV RL 73 RX6 yX6_restore wsX6_restore) := goodIn_app (goodIn_of _ (by decide +kernel)) ggL_law_X6_restore
set_option maxRecDepth 100000 in
theorem ggL_law_X5_callOfInlet : GoodIn wsL_law wsX5_callOfInlet := goodIn_r _ [619, 15, 620, 621, 220, 221, 14, 222, 36, 37, 622, 149, 150, 42, 151, 58, 801, 802, 803, 804, 805, 806, 807, 808, 821, 822, 823, 824, 825, 826, 827, 828, 829, 830, 831, 832, 833, 834, 835, 836, 851] rfl (by decide +kernel)
set_option maxRecDepth 100000 in
theorem gL_law_X5_callOfInlet : GoodIn wsL_law (wsV RL 74 RX5 yX5_callOfInlet wsX5_callOfInlet) := goodIn_app (goodIn_of _ (by decide +kernel)) ggL_law_X5_callOfInlet
set_option maxRecDepth 100000 in
theorem ggL_law_X6_callOfInlet : GoodIn wsL_law wsX6_callOfInlet := goodIn_r _ [626, 307, 308, 309, 5, 310, 171, 172, 173, 174, 89, 160, 161, 162, 175, 176, 177, 178, 809, 810, 811, 812, 813, 814, 815, 816, 817, 818, 819, 820] rfl (by decide +kernel)
set_option maxRecDepth 100000 in
theorem gL_law_X6_callOfInlet : GoodIn wsL_law (wsV RL 77 RX6 yX6_callOfInlet wsX6_callOfInlet) := goodIn_app (goodIn_of _ (by decide +kernel)) ggL_law_X6_callOfInlet
set_option maxRecDepth 100000 in
theorem ggL_law_X5_callOfOutlet : GoodIn wsL_law wsX5_callOfOutlet := goodIn_r _ [630, 15, 620, 631, 621, 220, 221, 14, 222, 36, 37, 622, 149, 150, 42, 151, 58, 801, 802, 803, 804, 805, 806, 807, 808, 821, 822, 823, 824, 825, 826, 827, 828, 829, 830, 831, 832, 833, 834, 835, 836, 851] rfl (by decide +kernel)
set_option maxRecDepth 100000 in
theorem gL_law_X5_callOfOutlet : GoodIn wsL_law (wsV RL 78 RX5 yX5_callOfOutlet wsX5_callOfOutlet) := goodIn_app (goodIn_of _ (by decide +kernel)) ggL_law_X5_callOfOutlet
