set_option maxRecDepth 20000 in
theorem ggL_law_X9_init : GoodIn wsL_law wsX9_init := goodIn_r _ [9, 10, 11, 12, 13, 14, 15, 16, 17, 18, 19, 20, 21, 22, 23, 24, 25, 26, 27, 28, 29, 30, 31, 32, 33, 34, 35, 36, 37, 38, 39, 40, 41, 42, 43, 44, 45, 46, 47, 48, 49, 50, 51, 52, 53, 54, 55, 56, 57, 58, 59, 60, 61, 62, 63, 64, 65, 66, 67, 68, 69, 70, 71, 72, 73, 74, 75, 76, 77, 78, 79, 80, 81, 82, 83, 84, 85, 86, 87, 88, 89, 90, 91, 92, 93, 94, 95, 96, 97, 98, 99, 100, 101, 102, 103, 104, 105, 106, 107, 108, 109, 110, 111, 112, 113, 114, 115, 116, 810, 811, 812, 813, 814, 815, 816, 751, 752, 753, 754, 755, 756, 757, 758, 817, 818, 819, 820, 821, 822, 823, 824, 825, 826, 827, 828, 829, 830, 831, 832, 833, 834, 835, 836, 837, 838, 839, 840, 841, 842, 843, 844, 845, 846, 847] rfl (by decide +kernel)
set_option maxRecDepth 20000 in
theorem gL_law_X9_init : GoodIn wsL_law (wsX9_init) := ggL_law_X9_init
set_option maxRecDepth 20000 in
theorem ggL_law_X10_init : GoodIn wsL_law wsX10_init := goodIn_r _ [119, 120, 11, 12, 55, 121, 122, 123, 124, 125, 126, 95, 127, 128, 129, 130, 88, 131, 132, 133, 134, 135, 136, 137, 138, 139, 140, 141, 142, 143, 144, 145, 146, 147, 148, 149, 759, 760, 761, 762, 763, 764, 765, 766, 767, 768, 769, 770, 771, 772, 773, 774, 775, 776, 777, 778, 779, 780, 781, 782, 783, 784, 785, 786, 787, 788, 789, 790, 791, 792, 793, 794, 795, 796, 797, 798, 799, 800, 801, 802, 803, 804, 805, 806, 807, 808, 809] rfl (by decide +kernel)
set_option maxRecDepth 20000 in
theorem gL_law_X10_init : GoodIn wsL_law (wsX10_init) := ggL_law_X10_init
set_option maxRecDepth 20000 in
theorem ggL_law_X9_store : GoodIn wsL_law wsX9_store := goodIn_r _ [153, 154, 16, 21, 155, 156, 2, 157, 158, 159, 160, 41, 161, 62, 162, 163, 164, 165, 20, 166, 99, 751, 752, 753, 754, 755, 756, 757, 758, 810, 811, 812, 813, 814, 815, 816, 837, 838, 817, 818, 819, 820, 821, 822, 823, 824, 825, 826, 827, 828] rfl (by decide +kernel)
set_option maxRecDepth 20000 in
theorem gL_law_X9_store : GoodIn wsL_law (wsV RL 13 RX9 yX9_store wsX9_store) := goodIn_app (goodIn_of _ (by decide +kernel)) ggL_law_X9_store
set_option maxRecDepth 20000 in
theorem ggL_law_X10_store : GoodIn wsL_law wsX10_store := goodIn_r _ [170, 171, 121, 172, 173, 174, 5, 175, 176, 177, 178, 179, 759, 760, 761, 762, 763, 764, 765, 766, 767, 768, 769, 770, 771, 772, 773, 774, 775, 776, 777, 778, 779, 780, 781, 782, 783, 784, 785, 786, 787, 788, 789, 790, 791, 792, 793, 794, 795, 796, 797, 798, 799, 800, 801, 802, 803, 804, 805, 806, 807, 808, 809] rfl (by decide +kernel)
set_option maxRecDepth 20000 in
theorem gL_law_X10_store : GoodIn wsL_law (wsV RL 17 RX10 yX10_store wsX10_store) := goodIn_app (goodIn_of _ (by decide +kernel)) ggL_law_X10_store
set_option maxRecDepth 20000 in
theorem ggL_law_X9_storeLong : GoodIn wsL_law wsX9_storeLong := goodIn_r _ [183, 184, 16, 21, 155, 156, 2, 157, 185, 186, 187, 41, 188, 63, 189, 159, 160, 161, 62, 162, 163, 164, 165, 20, 166, 99, 751, 752, 753, 754, 755, 756, 757, 758, 810, 811, 812, 813, 814, 815, 816, 837, 838, 817, 818, 819, 820, 821, 822, 823, 824, 825, 826, 827, 828] rfl (by decide +kernel)
set_option maxRecDepth 20000 in
theorem gL_law_X9_storeLong : GoodIn wsL_law (wsV RL 20 RX9 yX9_storeLong wsX9_storeLong) := goodIn_app (goodIn_of _ (by decide +kernel)) ggL_law_X9_storeLong
set_option maxRecDepth 20000 in
theorem ggL_law_X10_storeLong : GoodIn wsL_law wsX10_storeLong := goodIn_r _ [193, 194, 172, 173, 174, 5, 175, 176, 177, 178, 179, 195, 196, 197, 198, 121, 171, 122, 759, 760, 761, 762, 763, 764, 765, 766, 767, 768, 769, 770, 771, 772, 773, 774, 775, 776, 777, 778, 779, 780, 781, 782, 783, 784, 785, 786, 787, 788, 789, 790, 791, 792, 793, 794, 795, 796, 797, 798, 799, 800, 801, 802, 803, 804, 805, 806, 807, 808, 809] rfl (by decide +kernel)
set_option maxRecDepth 20000 in
theorem gL_law_X10_storeLong : GoodIn wsL_law (wsV RL 24 RX10 yX10_storeLong wsX10_storeLong) := goodIn_app (goodIn_of _ (by decide +kernel)) ggL_law_X10_storeLong
set_option maxRecDepth 20000 in
theorem ggL_law_X9_word : GoodIn wsL_law wsX9_word := goodIn_r _ [202, 16, 155, 156, 2, 157, 203, 204, 205, 41, 206, 62, 751, 752, 753, 754, 755, 756, 757, 758, 810, 811, 812, 813, 814, 815, 816, 837, 838] rfl (by decide +kernel)
set_option maxRecDepth 20000 in
theorem gL_law_X9_word : GoodIn wsL_law (wsV RL 25 RX9 yX9_word wsX9_word) := goodIn_app (goodIn_of _ (by decide +kernel)) ggL_law_X9_word
set_option maxRecDepth 20000 in
theorem ggL_law_X10_word : GoodIn wsL_law wsX10_word := goodIn_r _ [210, 121, 173, 174, 5, 175, 176, 177, 178, 179, 759, 760, 761, 762, 763, 764, 765, 766, 767, 768, 769, 770, 771, 772, 773, 774, 775, 776, 777, 778, 779, 780, 781, 782, 783, 784, 785, 786, 787, 788, 789, 790, 791, 792, 793, 794, 795, 796, 797, 798, 799, 800, 801, 802, 803, 804, 805, 806, 807, 808, 809] rfl (by decide +kernel)
set_option maxRecDepth 20000 in
theorem gL_law_X10_word : GoodIn wsL_law (wsV RL 29 RX10 yX10_word wsX10_word) := goodIn_app (goodIn_of _ (by decide +kernel)) ggL_law_X10_word
set_option maxRecDepth 20000 in
theorem ggL_law_X9_wordLong : GoodIn wsL_law wsX9_wordLong := goodIn_r _ [214, 16, 215, 155, 156, 2, 157, 216, 217, 218, 41, 219, 63, 220, 204, 205, 206, 62, 221, 222, 223, 751, 752, 753, 754, 755, 756, 757, 758, 810, 811, 812, 813, 814, 815, 816, 837, 838] rfl (by decide +kernel)
set_option maxRecDepth 20000 in
theorem gL_law_X9_wordLong : GoodIn wsL_law (wsV RL 30 RX9 yX9_wordLong wsX9_wordLong) := goodIn_app (goodIn_of _ (by decide +kernel)) ggL_law_X9_wordLong
set_option maxRecDepth 20000 in
theorem ggL_law_X10_wordLong : GoodIn wsL_law wsX10_wordLong := goodIn_r _ [227, 228, 173, 174, 5, 175, 176, 177, 178, 179, 229, 230, 231, 232, 121, 122, 233, 234, 235, 759, 760, 761, 762, 763, 764, 765, 766, 767, 768, 769, 770, 771, 772, 773, 774, 775, 776, 777, 778, 779, 780, 781, 782, 783, 784, 785, 786, 787, 788, 789, 790, 791, 792, 793, 794, 795, 796, 797, 798, 799, 800, 801, 802, 803, 804, 805, 806, 807, 808, 809] rfl (by decide +kernel)
set_option maxRecDepth 20000 in
theorem gL_law_X10_wordLong : GoodIn wsL_law (wsV RL 34 RX10 yX10_wordLong wsX10_wordLong) := goodIn_app (goodIn_of _ (by decide +kernel)) ggL_law_X10_wordLong
set_option maxRecDepth 20000 in
theorem ggL_law_X9_order : GoodIn wsL_law wsX9_order := goodIn_r _ [239, 16, 21, 155, 156, 2, 157, 240, 241, 242, 158, 159, 160, 41, 161, 62, 162, 163, 164, 165, 20, 166, 99, 751, 752, 753, 754, 755, 756, 757, 758, 810, 811, 812, 813, 814, 815, 816, 837, 838, 817, 818, 819, 820, 821, 822, 823, 824, 825, 826, 827, 828] rfl (by decide +kernel)
set_option maxRecDepth 20000 in
theorem gL_law_X9_order : GoodIn wsL_law (wsV RL 35 RX9 yX9_order wsX9_order) := goodIn_app (goodIn_of _ (by decide +kernel)) ggL_law_X9_order
set_option maxRecDepth 20000 in
theorem ggL_law_X10_order : GoodIn wsL_law wsX10_order := goodIn_r _ [246, 247, 248, 121, 172, 173, 174, 5, 175, 176, 177, 178, 179, 759, 760, 761, 762, 763, 764, 765, 766, 767, 768, 769, 770, 771, 772, 773, 774, 775, 776, 777, 778, 779, 780, 781, 782, 783, 784, 785, 786, 787, 788, 789, 790, 791, 792, 793, 794, 795, 796, 797, 798, 799, 800, 801, 802, 803, 804, 805, 806, 807, 808, 809] rfl (by decide +kernel)
set_option maxRecDepth 20000 in
theorem gL_law_X10_order : GoodIn wsL_law (wsV RL 39 RX10 yX10_order wsX10_order) := goodIn_app (goodIn_of _ (by decide +kernel)) ggL_law_X10_order
set_option maxRecDepth 20000 in
theorem ggL_law_X9_top : GoodIn wsL_law wsX9_top := goodIn_r _ [252, 16, 751, 752, 753, 754, 755, 756, 757, 758, 810, 811, 812, 813, 814, 815, 816, 839, 840] rfl (by decide +kernel)
set_option maxRecDepth 20000 in
theorem gL_law_X9_top : GoodIn wsL_law (wsV RL 40 RX9 yX9_top wsX9_top) := goodIn_app (goodIn_of _ (by decide +kernel)) ggL_law_X9_top
set_option maxRecDepth 20000 in
theorem ggL_law_X10_top : GoodIn wsL_law wsX10_top := goodIn_r _ [256, 257, 759, 760, 761, 762, 763, 764, 765, 766, 767, 768, 769, 770, 771, 772, 773, 774, 775, 776, 777, 778, 779, 780, 781, 782, 783, 784, 785, 786, 787, 788, 789, 790, 791, 792, 793, 794, 795, 796, 797, 798, 799, 800, 801, 802, 803, 804, 805, 806, 807, 808, 809] rfl (by decide +kernel)
set_option maxRecDepth 20000 in
theorem gL_law_X10_top : GoodIn wsL_law (wsV RL 44 RX10 yX10_top wsX10_top) := goodIn_app (goodIn_of _ (by decide +kernel)) ggL_law_X10_top
set_option maxRecDepth 20000 in
theorem ggL_law_X9_rest : GoodIn wsL_law wsX9_rest := goodIn_r _ [261, 16, 751, 752, 753, 754, 755, 756, 757, 758, 810, 811, 812, 813, 814, 815, 816, 839, 840] rfl (by decide +kernel)
set_option maxRecDepth 20000 in
theorem gL_law_X9_rest : GoodIn wsL_law (wsV RL 45 RX9 yX9_rest wsX9_rest) := goodIn_app (goodIn_of _ (by decide +kernel)) ggL_law_X9_rest
set_option maxRecDepth 20000 in
theorem ggL_law_X10_rest : GoodIn wsL_law wsX10_rest := goodIn_r _ [265, 266, 759, 760, 761, 762, 763, 764, 765, 766, 767, 768, 769, 770, 771, 772, 773, 774, 775, 776, 777, 778, 779, 780, 781, 782, 783, 784, 785, 786, 787, 788, 789, 790, 791, 792, 793, 794, 795, 796, 797, 798, 799, 800, 801, 802, 803, 804, 805, 806, 807, 808, 809] rfl (by decide +kernel)
set_option maxRecDepth 20000 in
theorem gL_law_X10_rest : GoodIn wsL_law (wsV RL 48 RX10 yX10_rest wsX10_rest) := goodIn_app (goodIn_of _ (by decide +kernel)) ggL_law_X10_rest
set_option maxRecDepth 20000 in
theorem ggL_law_X9_set : GoodIn wsL_law wsX9_set := goodIn_r _ [270, 271, 272, 273, 16, 21, 274, 275, 276, 45, 277, 67, 68, 163, 164, 165, 20, 166, 99, 751, 752, 753, 754, 755, 756, 757, 758, 810, 811, 812, 813, 814, 815, 816, 839, 840, 817, 818, 819, 820, 821, 822, 823, 824, 825, 826, 827, 828] rfl (by decide +kernel)
set_option maxRecDepth 20000 in
theorem gL_law_X9_set : GoodIn wsL_law (wsV RL 49 RX9 yX9_set wsX9_set) := goodIn_app (goodIn_of _ (by decide +kernel)) ggL_law_X9_set
set_option maxRecDepth 20000 in
theorem ggL_law_X10_set : GoodIn wsL_law wsX10_set := goodIn_r _ [281, 282, 283, 284, 257, 266, 172, 177, 178, 5, 179, 759, 760, 761, 762, 763, 764, 765, 766, 767, 768, 769, 770, 771, 772, 773, 774, 775, 776, 777, 778, 779, 780, 781, 782, 783, 784, 785, 786, 787, 788, 789, 790, 791, 792, 793, 794, 795, 796, 797, 798, 799, 800, 801, 802, 803, 804, 805, 806, 807, 808, 809] rfl (by decide +kernel)
set_option maxRecDepth 20000 in
theorem gL_law_X10_set : GoodIn wsL_law (wsV RL 53 RX10 yX10_set wsX10_set) := goodIn_app (goodIn_of _ (by decide +kernel)) ggL_law_X10_set
set_option maxRecDepth 20000 in
theorem ggL_law_X9_multiplier : GoodIn wsL_law wsX9_multiplier := goodIn_r _ [288, 16, 751, 752, 753, 754, 755, 756, 757, 758, 810, 811, 812, 813, 814, 815, 816] rfl (by decide +kernel)
set_option maxRecDepth 20000 in
theorem gL_law_X9_multiplier : GoodIn wsL_law (wsV RL 54 RX9 yX9_multiplier wsX9_multiplier) := goodIn_app (goodIn_of _ (by decide +kernel)) ggL_law_X9_multiplier
set_option maxRecDepth 20000 in
theorem ggL_law_X10_multiplier : GoodIn wsL_law wsX10_multiplier := goodIn_r _ [292, 293, 759, 760, 761, 762, 763, 764, 765, 766, 767, 768, 769, 770, 771, 772, 773, 774, 775, 776, 777, 778, 779, 780, 781, 782, 783, 784, 785, 786, 787, 788, 789, 790, 791, 792, 793, 794, 795, 796, 797, 798, 799, 800, 801, 802, 803, 804, 805, 806, 807, 808, 809] rfl (by decide +kernel)
set_option maxRecDepth 20000 in
theorem gL_law_X10_multiplier : GoodIn wsL_law (wsV RL 57 RX10 yX10_multiplier wsX10_multiplier) := goodIn_app (goodIn_of _ (by decide +kernel)) ggL_law_X10_multiplier
set_option maxRecDepth 20000 in
theorem ggL_law_X9_punch : GoodIn wsL_law wsX9_punch := goodIn_r _ [297, 16, 21, 298, 299, 300, 49, 301, 74, 73, 163, 164, 165, 20, 166, 99, 751, 752, 753, 754, 755, 756, 757, 758, 810, 811, 812, 813, 814, 815, 816, 841, 842, 843, 817, 818, 819, 820, 821, 822, 823, 824, 825, 826, 827, 828] rfl (by decide +kernel)
set_option maxRecDepth 20000 in
theorem gL_law_X9_punch : GoodIn wsL_law (wsV RL 58 RX9 yX9_punch wsX9_punch) := goodIn_app (goodIn_of _ (by decide +kernel)) ggL_law_X9_punch
set_option maxRecDepth 20000 in
theorem ggL_law_X10_punch : GoodIn wsL_law wsX10_punch := goodIn_r _ [305, 306, 307, 123, 247, 172, 177, 178, 5, 179, 759, 760, 761, 762, 763, 764, 765, 766, 767, 768, 769, 770, 771, 772, 773, 774, 775, 776, 777, 778, 779, 780, 781, 782, 783, 784, 785, 786, 787, 788, 789, 790, 791, 792, 793, 794, 795, 796, 797, 798, 799, 800, 801, 802, 803, 804, 805, 806, 807, 808, 809] rfl (by decide +kernel)
set_option maxRecDepth 20000 in
theorem gL_law_X10_punch : GoodIn wsL_law (wsV RL 62 RX10 yX10_punch wsX10_punch) := goodIn_app (goodIn_of _ (by decide +kernel)) ggL_law_X10_punch
set_option maxRecDepth 20000 in
theorem ggL_law_X9_rewind : GoodIn wsL_law wsX9_rewind := goodIn_r _ [311, 16, 21, 163, 164, 165, 20, 166, 99, 751, 752, 753, 754, 755, 756, 757, 758, 810, 811, 812, 813, 814, 815, 816, 841, 842, 843, 817, 818, 819, 820, 821, 822, 823, 824, 825, 826, 827, 828] rfl (by decide +kernel)
set_option maxRecDepth 20000 in
theorem gL_law_X9_rewind : GoodIn wsL_law (wsV RL 63 RX9 yX9_rewind wsX9_rewind) := goodIn_app (goodIn_of _ (by decide +kernel)) ggL_law_X9_rewind
set_option maxRecDepth 20000 in
theorem ggL_law_X10_rewind : GoodIn wsL_law wsX10_rewind := goodIn_r _ [315, 316, 172, 759, 760, 761, 762, 763, 764, 765, 766, 767, 768, 769, 770, 771, 772, 773, 774, 775, 776, 777, 778, 779, 780, 781, 782, 783, 784, 785, 786, 787, 788, 789, 790, 791, 792, 793, 794, 795, 796, 797, 798, 799, 800, 801, 802, 803, 804, 805, 806, 807, 808, 809] rfl (by decide +kernel)
set_option maxRecDepth 20000 in
theorem gL_law_X10_rewind : GoodIn wsL_law (wsV RL 67 RX10 yX10_rewind wsX10_rewind) := goodIn_app (goodIn_of _ (by decide +kernel)) ggL_law_X10_rewind
set_option maxRecDepth 20000 in
theorem ggL_law_X9_text : GoodIn wsL_law wsX9_text := goodIn_r _ [320, 16, 321, 322, 323, 53, 324, 79, 751, 752, 753, 754, 755, 756, 757, 758, 810, 811, 812, 813, 814, 815, 816, 844, 845, 846, 847] rfl (by decide +kernel)
set_option maxRecDepth 20000 in
theorem gL_law_X9_text : GoodIn wsL_law (wsV RL 68 RX9 yX9_text wsX9_text) := goodIn_app (goodIn_of _ (by decide +kernel)) ggL_law_X9_text
set_option maxRecDepth 20000 in
theorem ggL_law_X10_text : GoodIn wsL_law wsX10_text := goodIn_r _ [328, 329, 124, 177, 178, 5, 179, 759, 760, 761, 762, 763, 764, 765, 766, 767, 768, 769, 770, 771, 772, 773, 774, 775, 776, 777, 778, 779, 780, 781, 782, 783, 784, 785, 786, 787, 788, 789, 790, 791, 792, 793, 794, 795, 796, 797, 798, 799, 800, 801, 802, 803, 804, 805, 806, 807, 808, 809] rfl (by decide +kernel)
set_option maxRecDepth 20000 in
theorem gL_law_X10_text : GoodIn wsL_law (wsV RL 71 RX10 yX10_text wsX10_text) := goodIn_app (goodIn_of _ (by decide +kernel)) ggL_law_X10_text
set_option maxRecDepth 20000 in
theorem ggL_law_X9_tear : GoodIn wsL_law wsX9_tear := goodIn_r _ [333, 16, 21, 163, 164, 165, 20, 166, 99, 751, 752, 753, 754, 755, 756, 757, 758, 810, 811, 812, 813, 814, 815, 816, 844, 845, 846, 847, 817, 818, 819, 820, 821, 822, 823, 824, 825, 826, 827, 828] rfl (by decide +kernel)
set_option maxRecDepth 20000 in
theorem gL_law_X9_tear : GoodIn wsL_law (wsV RL 72 RX9 yX9_tear wsX9_tear) := goodIn_app (goodIn_of _ (by decide +kernel)) ggL_law_X9_tear
set_option maxRecDepth 20000 in
theorem ggL_law_X10_tear : GoodIn wsL_law wsX10_tear := goodIn_r _ [337, 329, 172, 759, 760, 761, 762, 763, 764, 765, 766, 767, 768, 769, 770, 771, 772, 773, 774, 775, 776, 777, 778, 779, 780, 781, 782, 783, 784, 785, 786, 787, 788, 789, 790, 791, 792, 793, 794, 795, 796, 797, 798, 799, 800, 801, 802, 803, 804, 805, 806, 807, 808, 809] rfl (by decide +kernel)
set_option maxRecDepth 20000 in
theorem gL_law_X10_tear : GoodIn wsL_law (wsV RL 75 RX10 yX10_tear wsX10_tear) := goodIn_app (goodIn_of _ (by decide +kernel)) ggL_law_X10_tear
set_option maxRecDepth 20000 in
theorem ggL_law_X9_load : GoodIn wsL_law wsX9_load := goodIn_r _ [341, 21, 25, 16, 163, 164, 165, 20, 166, 99, 342, 343, 344, 24, 345, 103, 105, 104, 346, 159, 160, 41, 161, 62, 162, 347, 348, 349, 350, 351, 352, 353, 49, 354, 75, 73, 355, 356, 357, 358, 74, 359, 204, 205, 206, 360, 361, 362, 363, 364, 2, 365, 366, 367, 368, 369, 751, 752, 753, 754, 755, 756, 757, 758, 817, 818, 819, 820, 821, 822, 823, 824, 825, 826, 827, 828, 829, 830, 831, 810, 811, 812, 813, 814, 815, 816, 837, 838, 841, 842, 843] rfl (by decide +kernel)
set_option maxRecDepth 20000 in
theorem gL_law_X9_load : GoodIn wsL_law (wsV RL 76 RX9 yX9_load wsX9_load) := goodIn_app (goodIn_of _ (by decide +kernel)) ggL_law_X9_load
set_option maxRecDepth 20000 in
theorem ggL_law_X10_load : GoodIn wsL_law wsX10_load := goodIn_r _ [373, 172, 121, 130, 316, 307, 123, 374, 375, 129, 759, 760, 761, 762, 763, 764, 765, 766, 767, 768, 769, 770, 771, 772, 773, 774, 775, 776, 777, 778, 779, 780, 781, 782, 783, 784, 785, 786, 787, 788, 789, 790, 791, 792, 793, 794, 795, 796, 797, 798, 799, 800, 801, 802, 803, 804, 805, 806, 807, 808, 809] rfl (by decide +kernel)
set_option maxRecDepth 20000 in
theorem gL_law_X10_load : GoodIn wsL_law (wsV RL 79 RX10 yX10_load wsX10_load) := goodIn_app (goodIn_of _ (by decide +kernel)) ggL_law_X10_load
set_option maxRecDepth 20000 in
theorem ggL_law_X9_loaded : GoodIn wsL_law wsX9_loaded := goodIn_r _ [379, 25, 751, 752, 753, 754, 755, 756, 757, 758, 829, 830, 831] rfl (by decide +kernel)
set_option maxRecDepth 20000 in
theorem gL_law_X9_loaded : GoodIn wsL_law (wsV RL 80 RX9 yX9_loaded wsX9_loaded) := goodIn_app (goodIn_of _ (by decide +kernel)) ggL_law_X9_loaded
set_option maxRecDepth 20000 in
theorem ggL_law_X10_loaded : GoodIn wsL_law wsX10_loaded := goodIn_r _ [383, 129, 759, 760, 761, 762, 763, 764, 765, 766, 767, 768, 769, 770, 771, 772, 773, 774, 775, 776, 777, 778, 779, 780, 781, 782, 783, 784, 785, 786, 787, 788, 789, 790, 791, 792, 793, 794, 795, 796, 797, 798, 799, 800, 801, 802, 803, 804, 805, 806, 807, 808, 809] rfl (by decide +kernel)
set_option maxRecDepth 20000 in
theorem gL_law_X10_loaded : GoodIn wsL_law (wsV RL 83 RX10 yX10_loaded wsX10_loaded) := goodIn_app (goodIn_of _ (by decide +kernel)) ggL_law_X10_loaded
set_option maxRecDepth 20000 in
theorem ggL_law_X9_start : GoodIn wsL_law wsX9_start := goodIn_r _ [387, 16, 21, 155, 156, 2, 157, 163, 164, 165, 20, 166, 99, 751, 752, 753, 754, 755, 756, 757, 758, 810, 811, 812, 813, 814, 815, 816, 817, 818, 819, 820, 821, 822, 823, 824, 825, 826, 827, 828] rfl (by decide +kernel)
set_option maxRecDepth 20000 in
theorem gL_law_X9_start : GoodIn wsL_law (wsV RL 84 RX9 yX9_start wsX9_start) := goodIn_app (goodIn_of _ (by decide +kernel)) ggL_law_X9_start
