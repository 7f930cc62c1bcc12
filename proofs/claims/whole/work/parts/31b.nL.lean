set_option maxRecDepth 100000 in
theorem ggL_law_X6_callOfOutlet : GoodIn wsL_law wsX6_callOfOutlet := goodIn_r _ [635, 307, 308, 309, 5, 310, 171, 172, 173, 174, 89, 160, 161, 162, 311, 312, 313, 314, 175, 176, 177, 178, 809, 810, 811, 812, 813, 814, 815, 816, 817, 818, 819, 820] rfl (by decide +kernel)
set_option maxRecDepth 100000 in
theorem gL_law_X6_callOfOutlet : GoodIn wsL_law (wsV RL 81 RX6 yX6_callOfOutlet wsX6_callOfOutlet) := goodIn_app (goodIn_of _ (by decide +kernel)) ggL_law_X6_callOfOutlet
set_option maxRecDepth 100000 in
theorem ggL_law_X5_inletOf : GoodIn wsL_law wsX5_inletOf := goodIn_r _ [639, 15, 640, 641, 642, 14, 643, 43, 148, 149, 150, 42, 151, 58, 801, 802, 803, 804, 805, 806, 807, 808, 821, 822, 823, 824, 825, 826, 827, 828, 829, 830, 831, 832, 833, 834, 835, 836, 851] rfl (by decide +kernel)
set_option maxRecDepth 100000 in
theorem gL_law_X5_inletOf : GoodIn wsL_law (wsV RL 82 RX5 yX5_inletOf wsX5_inletOf) := goodIn_app (goodIn_of _ (by decide +kernel)) ggL_law_X5_inletOf
set_option maxRecDepth 100000 in
theorem ggL_law_X6_inletOf : GoodIn wsL_law wsX6_inletOf := goodIn_r _ [647, 171, 172, 173, 5, 174, 89, 175, 176, 177, 178, 809, 810, 811, 812, 813, 814, 815, 816, 817, 818, 819, 820] rfl (by decide +kernel)
set_option maxRecDepth 100000 in
theorem gL_law_X6_inletOf : GoodIn wsL_law (wsV RL 85 RX6 yX6_inletOf wsX6_inletOf) := goodIn_app (goodIn_of _ (by decide +kernel)) ggL_law_X6_inletOf
set_option maxRecDepth 100000 in
theorem ggL_law_X5_outletOf : GoodIn wsL_law wsX5_outletOf := goodIn_r _ [651, 15, 652, 640, 641, 642, 14, 643, 43, 148, 149, 150, 42, 151, 58, 622, 801, 802, 803, 804, 805, 806, 807, 808, 821, 822, 823, 824, 825, 826, 827, 828, 829, 830, 831, 832, 833, 834, 835, 836, 851] rfl (by decide +kernel)
set_option maxRecDepth 100000 in
theorem gL_law_X5_outletOf : GoodIn wsL_law (wsV RL 86 RX5 yX5_outletOf wsX5_outletOf) := goodIn_app (goodIn_of _ (by decide +kernel)) ggL_law_X5_outletOf
set_option maxRecDepth 100000 in
theorem ggL_law_X6_outletOf : GoodIn wsL_law wsX6_outletOf := goodIn_r _ [656, 657, 645, 646, 5, 647, 171, 172, 173, 174, 89, 175, 176, 177, 178, 809, 810, 811, 812, 813, 814, 815, 816, 817, 818, 819, 820] rfl (by decide +kernel)
set_option maxRecDepth 100000 in
theorem gL_law_X6_outletOf : GoodIn wsL_law (wsV RL 89 RX6 yX6_outletOf wsX6_outletOf) := goodIn_app (goodIn_of _ (by decide +kernel)) ggL_law_X6_outletOf
set_option maxRecDepth 100000 in
theorem ggL_law_X5_middleOf : GoodIn wsL_law wsX5_middleOf := goodIn_r _ [661, 15, 662, 640, 641, 642, 14, 643, 43, 148, 149, 150, 42, 151, 58, 622, 801, 802, 803, 804, 805, 806, 807, 808, 821, 822, 823, 824, 825, 826, 827, 828, 829, 830, 831, 832, 833, 834, 835, 836, 851] rfl (by decide +kernel)
set_option maxRecDepth 100000 in
theorem gL_law_X5_middleOf : GoodIn wsL_law (wsV RL 90 RX5 yX5_middleOf wsX5_middleOf) := goodIn_app (goodIn_of _ (by decide +kernel)) ggL_law_X5_middleOf
set_option maxRecDepth 100000 in
theorem ggL_law_X6_middleOf : GoodIn wsL_law wsX6_middleOf := goodIn_r _ [666, 657, 645, 646, 5, 647, 171, 172, 173, 174, 89, 175, 176, 177, 178, 809, 810, 811, 812, 813, 814, 815, 816, 817, 818, 819, 820] rfl (by decide +kernel)
set_option maxRecDepth 100000 in
theorem gL_law_X6_middleOf : GoodIn wsL_law (wsV RL 93 RX6 yX6_middleOf wsX6_middleOf) := goodIn_app (goodIn_of _ (by decide +kernel)) ggL_law_X6_middleOf
set_option maxRecDepth 100000 in
theorem ggL_law_X5_onFirstLink : GoodIn wsL_law wsX5_onFirstLink := goodIn_r _ [670, 15, 620, 671, 672, 673, 674, 14, 675, 36, 676, 392, 393, 394, 38, 677, 247, 2, 248, 622, 149, 150, 42, 151, 58, 801, 802, 803, 804, 805, 806, 807, 808, 821, 822, 823, 824, 825, 826, 827, 828, 829, 830, 831, 832, 833, 834, 835, 836, 851] rfl (by decide +kernel)
set_option maxRecDepth 100000 in
theorem gL_law_X5_onFirstLink : GoodIn wsL_law (wsV RL 94 RX5 yX5_onFirstLink wsX5_onFirstLink) := goodIn_app (goodIn_of _ (by decide +kernel)) ggL_law_X5_onFirstLink
set_option maxRecDepth 100000 in
theorem ggL_law_X6_onFirstLink : GoodIn wsL_law wsX6_onFirstLink := goodIn_r _ [681, 682, 683, 684, 5, 685, 89, 160, 161, 162, 413, 414, 415, 416, 327, 328, 329, 330, 171, 172, 173, 174, 175, 176, 177, 178, 809, 810, 811, 812, 813, 814, 815, 816, 817, 818, 819, 820] rfl (by decide +kernel)
set_option maxRecDepth 100000 in
theorem gL_law_X6_onFirstLink : GoodIn wsL_law (wsV RL 97 RX6 yX6_onFirstLink wsX6_onFirstLink) := goodIn_app (goodIn_of _ (by decide +kernel)) ggL_law_X6_onFirstLink
set_option maxRecDepth 100000 in
theorem ggL_law_X5_onLastLink : GoodIn wsL_law wsX5_onLastLink := goodIn_r _ [689, 15, 620, 690, 676, 392, 393, 14, 394, 38, 672, 673, 674, 675, 36, 677, 247, 2, 248, 622, 149, 150, 42, 151, 58, 801, 802, 803, 804, 805, 806, 807, 808, 821, 822, 823, 824, 825, 826, 827, 828, 829, 830, 831, 832, 833, 834, 835, 836, 851] rfl (by decide +kernel)
set_option maxRecDepth 100000 in
theorem gL_law_X5_onLastLink : GoodIn wsL_law (wsV RL 98 RX5 yX5_onLastLink wsX5_onLastLink) := goodIn_app (goodIn_of _ (by decide +kernel)) ggL_law_X5_onLastLink
set_option maxRecDepth 100000 in
theorem ggL_law_X6_onLastLink : GoodIn wsL_law wsX6_onLastLink := goodIn_r _ [694, 682, 683, 684, 5, 685, 89, 160, 161, 162, 413, 414, 415, 416, 335, 336, 337, 338, 171, 172, 173, 174, 175, 176, 177, 178, 809, 810, 811, 812, 813, 814, 815, 816, 817, 818, 819, 820] rfl (by decide +kernel)
set_option maxRecDepth 100000 in
theorem gL_law_X6_onLastLink : GoodIn wsL_law (wsV RL 101 RX6 yX6_onLastLink wsX6_onLastLink) := goodIn_app (goodIn_of _ (by decide +kernel)) ggL_law_X6_onLastLink
set_option maxRecDepth 100000 in
theorem ggL_law_X5_load : GoodIn wsL_law wsX5_load := goodIn_r _ [698, 15, 676, 392, 393, 14, 394, 38, 699, 257, 258, 259, 36, 47, 247, 2, 248, 148, 149, 150, 42, 151, 58, 801, 802, 803, 804, 805, 806, 807, 808, 821, 822, 823, 824, 825, 826, 827, 828, 829, 830, 831, 832, 833, 834, 835, 836, 851] rfl (by decide +kernel)
set_option maxRecDepth 100000 in
theorem gL_law_X5_load : GoodIn wsL_law (wsV RL 102 RX5 yX5_load wsX5_load) := goodIn_app (goodIn_of _ (by decide +kernel)) ggL_law_X5_load
set_option maxRecDepth 100000 in
theorem ggL_law_X6_load : GoodIn wsL_law wsX6_load := goodIn_r _ [703, 413, 414, 415, 5, 416, 89, 160, 161, 162, 346, 347, 348, 349, 171, 172, 173, 174, 175, 176, 177, 178, 809, 810, 811, 812, 813, 814, 815, 816, 817, 818, 819, 820] rfl (by decide +kernel)
set_option maxRecDepth 100000 in
theorem gL_law_X6_load : GoodIn wsL_law (wsV RL 105 RX6 yX6_load wsX6_load) := goodIn_app (goodIn_of _ (by decide +kernel)) ggL_law_X6_load
set_option maxRecDepth 100000 in
theorem ggL_law_X5_freeForFirst : GoodIn wsL_law wsX5_freeForFirst := goodIn_r _ [707, 15, 671, 672, 673, 674, 14, 675, 36, 708, 244, 245, 246, 38, 39, 247, 2, 248, 148, 149, 150, 42, 151, 58, 801, 802, 803, 804, 805, 806, 807, 808, 821, 822, 823, 824, 825, 826, 827, 828, 829, 830, 831, 832, 833, 834, 835, 836, 851] rfl (by decide +kernel)
set_option maxRecDepth 100000 in
theorem gL_law_X5_freeForFirst : GoodIn wsL_law (wsV RL 106 RX5 yX5_freeForFirst wsX5_freeForFirst) := goodIn_app (goodIn_of _ (by decide +kernel)) ggL_law_X5_freeForFirst
set_option maxRecDepth 100000 in
theorem ggL_law_X6_freeForFirst : GoodIn wsL_law wsX6_freeForFirst := goodIn_r _ [712, 682, 683, 684, 5, 685, 89, 160, 161, 162, 320, 321, 322, 323, 324, 325, 326, 327, 328, 329, 330, 171, 172, 173, 174, 175, 176, 177, 178, 809, 810, 811, 812, 813, 814, 815, 816, 817, 818, 819, 820] rfl (by decide +kernel)
set_option maxRecDepth 100000 in
theorem gL_law_X6_freeForFirst : GoodIn wsL_law (wsV RL 109 RX6 yX6_freeForFirst wsX6_freeForFirst) := goodIn_app (goodIn_of _ (by decide +kernel)) ggL_law_X6_freeForFirst
set_option maxRecDepth 100000 in
theorem ggL_law_X5_freeForLast : GoodIn wsL_law wsX5_freeForLast := goodIn_r _ [716, 15, 690, 672, 673, 674, 14, 675, 36, 708, 244, 245, 246, 38, 39, 247, 2, 248, 148, 149, 150, 42, 151, 58, 801, 802, 803, 804, 805, 806, 807, 808, 821, 822, 823, 824, 825, 826, 827, 828, 829, 830, 831, 832, 833, 834, 835, 836, 851] rfl (by decide +kernel)
set_option maxRecDepth 100000 in
theorem gL_law_X5_freeForLast : GoodIn wsL_law (wsV RL 110 RX5 yX5_freeForLast wsX5_freeForLast) := goodIn_app (goodIn_of _ (by decide +kernel)) ggL_law_X5_freeForLast
set_option maxRecDepth 100000 in
theorem ggL_law_X6_freeForLast : GoodIn wsL_law wsX6_freeForLast := goodIn_r _ [720, 682, 683, 684, 5, 685, 89, 160, 161, 162, 331, 332, 333, 334, 324, 325, 326, 335, 336, 337, 338, 171, 172, 173, 174, 175, 176, 177, 178, 809, 810, 811, 812, 813, 814, 815, 816, 817, 818, 819, 820] rfl (by decide +kernel)
set_option maxRecDepth 100000 in
theorem gL_law_X6_freeForLast : GoodIn wsL_law (wsV RL 113 RX6 yX6_freeForLast wsX6_freeForLast) := goodIn_app (goodIn_of _ (by decide +kernel)) ggL_law_X6_freeForLast
set_option maxRecDepth 100000 in
theorem ggL_law_X5_inService : GoodIn wsL_law wsX5_inService := goodIn_r _ [724, 15, 725, 801, 802, 803, 804, 805, 806, 807, 808, 821, 822, 823, 824, 825, 826, 827, 828, 829, 830, 831, 832, 833, 834, 835, 836] rfl (by decide +kernel)
set_option maxRecDepth 100000 in
theorem gL_law_X5_inService : GoodIn wsL_law (wsV RL 114 RX5 yX5_inService wsX5_inService) := goodIn_app (goodIn_of _ (by decide +kernel)) ggL_law_X5_inService
set_option maxRecDepth 100000 in
theorem ggL_law_X6_inService : GoodIn wsL_law wsX6_inService := goodIn_r _ [729, 89, 809, 810, 811, 812, 813, 814, 815, 816, 817, 818, 819, 820] rfl (by decide +kernel)
set_option maxRecDepth 100000 in
theorem gL_law_X6_inService : GoodIn wsL_law (wsV RL 117 RX6 yX6_inService wsX6_inService) := goodIn_app (goodIn_of _ (by decide +kernel)) ggL_law_X6_inService
set_option maxRecDepth 100000 in
theorem ggL_law_X5_total : GoodIn wsL_law wsX5_total := goodIn_r _ [733, 15, 734, 735, 736, 188, 201, 737, 738, 739, 740, 26, 741, 30, 501, 602, 145, 146, 14, 147, 43, 148, 149, 150, 42, 151, 58, 801, 802, 803, 804, 805, 806, 807, 808, 821, 822, 823, 824, 825, 826, 827, 828, 829, 830, 831, 832, 833, 834, 835, 836, 842, 843, 844, 845, 846, 847, 848, 849, 850, 851] rfl (by decide +kernel)
set_option maxRecDepth 100000 in
theorem gL_law_X5_total : GoodIn wsL_law (wsV RL 118 RX5 yX5_total wsX5_total) := goodIn_app (goodIn_of _ (by decide +kernel)) ggL_law_X5_total
set_option maxRecDepth 100000 in
theorem ggL_law_X6_total : GoodIn wsL_law wsX6_total := goodIn_r _ [745, 89, 183, 496, 167, 168, 169, 5, 170, 171, 172, 173, 174, 175, 176, 177, 178, 809, 810, 811, 812, 813, 814, 815, 816, 817, 818, 819, 820] rfl (by decide +kernel)
set_option maxRecDepth 100000 in
theorem gL_law_X6_total : GoodIn wsL_law (wsV RL 121 RX6 yX6_total wsX6_total) := goodIn_app (goodIn_of _ (by decide +kernel)) ggL_law_X6_total
set_option maxRecDepth 100000 in
theorem ggL_law_X5_wouldMove : GoodIn wsL_law wsX5_wouldMove := goodIn_r _ [749, 22, 15, 750, 751, 216, 217, 21, 218, 219, 220, 221, 14, 222, 36, 37, 223, 224, 225, 226, 43, 148, 149, 150, 42, 151, 58, 227, 228, 229, 230, 46, 231, 232, 233, 234, 235, 236, 237, 238, 239, 240, 241, 242, 243, 244, 245, 246, 38, 39, 247, 2, 248, 249, 250, 251, 252, 253, 254, 255, 256, 257, 258, 259, 47, 260, 261, 262, 263, 264, 265, 266, 267, 268, 269, 68, 270, 271, 272, 273, 274, 275, 801, 802, 803, 804, 805, 806, 807, 808, 837, 838, 839, 840, 841, 821, 822, 823, 824, 825, 826, 827, 828, 829, 830, 831, 832, 833, 834, 835, 836, 851] rfl (by decide +kernel)
set_option maxRecDepth 100000 in
theorem gL_law_X5_wouldMove : GoodIn wsL_law (wsV RL 122 RX5 yX5_wouldMove wsX5_wouldMove) := goodIn_app (goodIn_of _ (by decide +kernel)) ggL_law_X5_wouldMove
set_option maxRecDepth 100000 in
theorem ggL_law_X6_wouldMove : GoodIn wsL_law wsX6_wouldMove := goodIn_r _ [755, 319, 163, 164, 165, 5, 166, 89, 303, 304, 305, 306, 307, 308, 309, 310, 171, 172, 173, 174, 160, 161, 162, 175, 176, 177, 178, 311, 312, 313, 314, 97, 98, 99, 100, 315, 316, 317, 318, 91, 320, 321, 322, 323, 324, 325, 326, 327, 328, 329, 330, 331, 332, 333, 334, 335, 336, 337, 338, 339, 340, 341, 342, 343, 344, 345, 346, 347, 348, 349, 350, 351, 352, 353, 354, 355, 356, 357, 809, 810, 811, 812, 813, 814, 815, 816, 817, 818, 819, 820] rfl (by decide +kernel)
set_option maxRecDepth 100000 in
theorem gL_law_X6_wouldMove : GoodIn wsL_law (wsV RL 125 RX6 yX6_wouldMove wsX6_wouldMove) := goodIn_app (goodIn_of _ (by decide +kernel)) ggL_law_X6_wouldMove
set_option maxRecDepth 100000 in
theorem ggL_law_X5_chainCall : GoodIn wsL_law wsX5_chainCall := goodIn_r _ [759, 22, 15, 750, 620, 760, 751, 216, 217, 21, 218, 219, 220, 221, 14, 222, 36, 37, 223, 224, 225, 226, 43, 148, 149, 150, 42, 151, 58, 227, 228, 229, 230, 46, 231, 232, 233, 234, 235, 236, 237, 238, 239, 240, 241, 242, 243, 244, 245, 246, 38, 39, 247, 2, 248, 249, 250, 251, 252, 253, 254, 255, 256, 257, 258, 259, 47, 260, 261, 262, 263, 264, 265, 266, 267, 268, 269, 68, 270, 271, 272, 273, 274, 275, 622, 801, 802, 803, 804, 805, 806, 807, 808, 837, 838, 839, 840, 841, 821, 822, 823, 824, 825, 826, 827, 828, 829, 830, 831, 832, 833, 834, 835, 836, 851] rfl (by decide +kernel)
set_option maxRecDepth 100000 in
theorem gL_law_X5_chainCall : GoodIn wsL_law (wsV RL 126 RX5 yX5_chainCall wsX5_chainCall) := goodIn_app (goodIn_of _ (by decide +kernel)) ggL_law_X5_chainCall
set_option maxRecDepth 100000 in
theorem ggL_law_X6_chainCall : GoodIn wsL_law wsX6_chainCall := goodIn_r _ [764, 319, 91, 163, 164, 165, 5, 166, 89, 303, 304, 305, 306, 307, 308, 309, 310, 171, 172, 173, 174, 160, 161, 162, 175, 176, 177, 178, 311, 312, 313, 314, 97, 98, 99, 100, 315, 316, 317, 318, 320, 321, 322, 323, 324, 325, 326, 327, 328, 329, 330, 331, 332, 333, 334, 335, 336, 337, 338, 339, 340, 341, 342, 343, 344, 345, 346, 347, 348, 349, 350, 351, 352, 353, 354, 355, 356, 357, 809, 810, 811, 812, 813, 814, 815, 816, 817, 818, 819, 820] rfl (by decide +kernel)
set_option maxRecDepth 100000 in
theorem gL_law_X6_chainCall : GoodIn wsL_law (wsV RL 129 RX6 yX6_chainCall wsX6_chainCall) := goodIn_app (goodIn_of _ (by decide +kernel)) ggL_law_X6_chainCall
set_option maxRecDepth 100000 in
theorem ggL_law_X5_reason : GoodIn wsL_law wsX5_reason := goodIn_r _ [768, 15, 671, 690, 621, 220, 221, 14, 222, 36, 37, 769, 224, 225, 226, 43, 148, 149, 150, 42, 151, 58, 770, 228, 229, 230, 46, 771, 240, 241, 242, 708, 244, 245, 246, 38, 39, 247, 2, 248, 801, 802, 803, 804, 805, 806, 807, 808, 821, 822, 823, 824, 825, 826, 827, 828, 829, 830, 831, 832, 833, 834, 835, 836, 851] rfl (by decide +kernel)
set_option maxRecDepth 100000 in
theorem gL_law_X5_reason : GoodIn wsL_law (wsV RL 130 RX5 yX5_reason wsX5_reason) := goodIn_app (goodIn_of _ (by decide +kernel)) ggL_law_X5_reason
set_option maxRecDepth 100000 in
theorem ggL_law_X6_reason : GoodIn wsL_law wsX6_reason := goodIn_r _ [775, 89, 307, 308, 309, 5, 310, 171, 172, 173, 174, 160, 161, 162, 175, 176, 177, 178, 311, 312, 313, 314, 320, 321, 322, 323, 324, 325, 326, 327, 328, 329, 330, 331, 332, 333, 334, 335, 336, 337, 338, 809, 810, 811, 812, 813, 814, 815, 816, 817, 818, 819, 820] rfl (by decide +kernel)
set_option maxRecDepth 100000 in
theorem gL_law_X6_reason : GoodIn wsL_law (wsV RL 133 RX6 yX6_reason wsX6_reason) := goodIn_app (goodIn_of _ (by decide +kernel)) ggL_law_X6_reason
set_option maxRecDepth 100000 in
theorem ggL_law_X5_leastMiddles : GoodIn wsL_law wsX5_leastMiddles := goodIn_r _ [779, 15, 780, 457, 458, 14, 459, 36, 37, 460, 54, 55, 56, 404, 224, 225, 226, 43, 148, 149, 150, 42, 151, 58, 461, 228, 229, 230, 46, 801, 802, 803, 804, 805, 806, 807, 808, 821, 822, 823, 824, 825, 826, 827, 828, 829, 830, 831, 832, 833, 834, 835, 836, 851] rfl (by decide +kernel)
set_option maxRecDepth 100000 in
theorem gL_law_X5_leastMiddles : GoodIn wsL_law (wsV RL 134 RX5 yX5_leastMiddles wsX5_leastMiddles) := goodIn_app (goodIn_of _ (by decide +kernel)) ggL_law_X5_leastMiddles
set_option maxRecDepth 100000 in
theorem ggL_law_X6_leastMiddles : GoodIn wsL_law wsX6_leastMiddles := goodIn_r _ [784, 478, 479, 480, 5, 481, 89, 171, 172, 173, 174, 175, 176, 177, 178, 809, 810, 811, 812, 813, 814, 815, 816, 817, 818, 819, 820] rfl (by decide +kernel)
set_option maxRecDepth 100000 in
theorem gL_law_X6_leastMiddles : GoodIn wsL_law (wsV RL 137 RX6 yX6_leastMiddles wsX6_leastMiddles) := goodIn_app (goodIn_of _ (by decide +kernel)) ggL_law_X6_leastMiddles
set_option maxRecDepth 100000 in
theorem ggL_law_X5_wouldDrop : GoodIn wsL_law wsX5_wouldDrop := goodIn_r _ [788, 18, 15, 22, 210, 122, 123, 14, 124, 36, 37, 38, 39, 125, 126, 127, 128, 129, 130, 43, 44, 45, 46, 47, 48, 131, 132, 133, 42, 134, 58, 135, 115, 55, 116, 136, 137, 138, 139, 385, 386, 387, 21, 388, 389, 390, 391, 392, 393, 394, 254, 2, 255, 271, 149, 150, 151, 286, 287, 288, 289, 148, 290, 240, 241, 242, 247, 248, 280, 273, 274, 275, 395, 396, 397, 398, 270, 285, 399, 400, 401, 402, 403, 404, 224, 225, 226, 231, 232, 233, 234, 235, 236, 237, 238, 239, 243, 244, 245, 246, 249, 250, 251, 252, 253, 256, 257, 258, 259, 260, 261, 262, 263, 264, 265, 266, 267, 268, 269, 68, 272, 368, 369, 370, 371, 372, 281, 282, 283, 284, 291, 292, 293, 294, 801, 802, 803, 804, 805, 806, 807, 808, 821, 822, 823, 824, 825, 826, 827, 828, 829, 830, 831, 832, 833, 834, 835, 836, 851, 837, 838, 839, 840, 841] rfl (by decide +kernel)
set_option maxRecDepth 100000 in
theorem gL_law_X5_wouldDrop : GoodIn wsL_law (wsV RL 138 RX5 yX5_wouldDrop wsX5_wouldDrop) := goodIn_app (goodIn_of _ (by decide +kernel)) ggL_law_X5_wouldDrop
set_option maxRecDepth 100000 in
theorem ggL_law_X6_wouldDrop : GoodIn wsL_law wsX6_wouldDrop := goodIn_r _ [792, 163, 164, 165, 5, 166, 89, 409, 410, 411, 412, 413, 414, 415, 416, 160, 161, 162, 324, 325, 326, 171, 172, 173, 174, 175, 176, 177, 178, 97, 98, 99, 100, 417, 418, 419, 420, 315, 316, 317, 318, 319, 91, 320, 321, 322, 323, 327, 328, 329, 330, 331, 332, 333, 334, 335, 336, 337, 338, 339, 340, 341, 342, 343, 344, 345, 346, 347, 348, 349, 350, 351, 352, 353, 354, 355, 356, 357, 809, 810, 811, 812, 813, 814, 815, 816, 817, 818, 819, 820] rfl (by decide +kernel)
set_option maxRecDepth 100000 in
theorem gL_law_X6_wouldDrop : GoodIn wsL_law (wsV RL 141 RX6 yX6_wouldDrop wsX6_wouldDrop) := goodIn_app (goodIn_of _ (by decide +kernel)) ggL_law_X6_wouldDrop
set_option maxRecDepth 100000 in
theorem ggL_law_X5_reachable : GoodIn wsL_law wsX5_reachable := goodIn_r _ [796, 15, 671, 690, 621, 220, 221, 14, 222, 36, 37, 769, 224, 225, 226, 43, 148, 149, 150, 42, 151, 58, 771, 240, 241, 242, 708, 244, 245, 246, 38, 39, 247, 2, 248, 770, 228, 229, 230, 46, 801, 802, 803, 804, 805, 806, 807, 808, 821, 822, 823, 824, 825, 826, 827, 828, 829, 830, 831, 832, 833, 834, 835, 836, 851] rfl (by decide +kernel)
set_option maxRecDepth 100000 in
theorem gL_law_X5_reachable : GoodIn wsL_law (wsV RL 142 RX5 yX5_reachable wsX5_reachable) := goodIn_app (goodIn_of _ (by decide +kernel)) ggL_law_X5_reachable
set_option maxRecDepth 100000 in
theorem ggL_law_X6_reachable : GoodIn wsL_law wsX6_reachable := goodIn_r _ [800, 89, 307, 308, 309, 5, 310, 171, 172, 173, 174, 160, 161, 162, 175, 176, 177, 178, 320, 321, 322, 323, 324, 325, 326, 327, 328, 329, 330, 311, 312, 313, 314, 331, 332, 333, 334, 335, 336, 337, 338, 809, 810, 811, 812, 813, 814, 815, 816, 817, 818, 819, 820] rfl (by decide +kernel)
set_option maxRecDepth 100000 in
theorem gL_law_X6_reachable : GoodIn wsL_law (wsV RL 145 RX6 yX6_reachable wsX6_reachable) := goodIn_app (goodIn_of _ (by decide +kernel)) ggL_law_X6_reachable
