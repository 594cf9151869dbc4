theorem inlX0 : ∀ w ∈ wsX00, w ∈ wsL_law := fun _ h => List.mem_append_left _ (List.mem_append_left _ (List.mem_append_left _ (List.mem_append_left _ (List.mem_append_left _ (List.mem_append_left _ (List.mem_append_left _ (List.mem_append_left _ (List.mem_append_right _ h))))))))
theorem inX0 : ∀ w ∈ wsX00, w ∈ lw_tbl := fun w h => wsL_law_in w (inlX0 w h)
theorem inlX1 : ∀ w ∈ wsX10, w ∈ wsL_law := fun _ h => List.mem_append_left _ (List.mem_append_left _ (List.mem_append_left _ (List.mem_append_left _ (List.mem_append_left _ (List.mem_append_left _ (List.mem_append_left _ (List.mem_append_left _ (List.mem_append_left _ (List.mem_append_left _ (List.mem_append_right _ h))))))))))
theorem inX1 : ∀ w ∈ wsX10, w ∈ lw_tbl := fun w h => wsL_law_in w (inlX1 w h)
theorem inlX2 : ∀ w ∈ wsX20, w ∈ wsL_law := fun _ h => List.mem_append_left _ (List.mem_append_left _ (List.mem_append_left _ (List.mem_append_left _ (List.mem_append_right _ h))))
theorem inX2 : ∀ w ∈ wsX20, w ∈ lw_tbl := fun w h => wsL_law_in w (inlX2 w h)
theorem inlX3 : ∀ w ∈ wsX30, w ∈ wsL_law := fun _ h => List.mem_append_left _ (List.mem_append_left _ (List.mem_append_left _ (List.mem_append_left _ (List.mem_append_left _ (List.mem_append_left _ (List.mem_append_right _ h))))))
theorem inX3 : ∀ w ∈ wsX30, w ∈ lw_tbl := fun w h => wsL_law_in w (inlX3 w h)
theorem inlX4 : ∀ w ∈ wsX40, w ∈ wsL_law := fun _ h => List.mem_append_left _ (List.mem_append_left _ (List.mem_append_left _ (List.mem_append_left _ (List.mem_append_left _ (List.mem_append_left _ (List.mem_append_left _ (List.mem_append_left _ (List.mem_append_left _ (List.mem_append_right _ h)))))))))
theorem inX4 : ∀ w ∈ wsX40, w ∈ lw_tbl := fun w h => wsL_law_in w (inlX4 w h)
theorem inlX5 : ∀ w ∈ wsX50, w ∈ wsL_law := fun _ h => List.mem_append_left _ (List.mem_append_left _ (List.mem_append_right _ h))
theorem inX5 : ∀ w ∈ wsX50, w ∈ lw_tbl := fun w h => wsL_law_in w (inlX5 w h)
theorem inlX6 : ∀ w ∈ wsX60, w ∈ wsL_law := fun _ h => List.mem_append_left _ (List.mem_append_right _ h)
theorem inX6 : ∀ w ∈ wsX60, w ∈ lw_tbl := fun w h => wsL_law_in w (inlX6 w h)
theorem inlX7 : ∀ w ∈ wsX70, w ∈ wsL_law := fun _ h => List.mem_append_left _ (List.mem_append_left _ (List.mem_append_left _ (List.mem_append_left _ (List.mem_append_left _ (List.mem_append_left _ (List.mem_append_left _ (List.mem_append_right _ h)))))))
theorem inX7 : ∀ w ∈ wsX70, w ∈ lw_tbl := fun w h => wsL_law_in w (inlX7 w h)
theorem inlX8 : ∀ w ∈ wsX80, w ∈ wsL_law := fun _ h => List.mem_append_left _ (List.mem_append_left _ (List.mem_append_left _ (List.mem_append_right _ h)))
theorem inX8 : ∀ w ∈ wsX80, w ∈ lw_tbl := fun w h => wsL_law_in w (inlX8 w h)
theorem inlX9 : ∀ w ∈ wsX90, w ∈ wsL_law := fun _ h => List.mem_append_left _ (List.mem_append_left _ (List.mem_append_left _ (List.mem_append_left _ (List.mem_append_left _ (List.mem_append_right _ h)))))
theorem inX9 : ∀ w ∈ wsX90, w ∈ lw_tbl := fun w h => wsL_law_in w (inlX9 w h)
theorem inlX10 : ∀ w ∈ wsX100, w ∈ wsL_law := fun _ h => List.mem_append_left _ (List.mem_append_left _ (List.mem_append_left _ (List.mem_append_left _ (List.mem_append_left _ (List.mem_append_left _ (List.mem_append_left _ (List.mem_append_left _ (List.mem_append_left _ (List.mem_append_left _ (List.mem_append_left _ (List.mem_append_left _ (List.mem_append_right _ h))))))))))))
theorem inX10 : ∀ w ∈ wsX100, w ∈ lw_tbl := fun w h => wsL_law_in w (inlX10 w h)
theorem inlX11 : ∀ w ∈ wsX110, w ∈ wsL_law := fun _ h => List.mem_append_left _ (List.mem_append_left _ (List.mem_append_left _ (List.mem_append_left _ (List.mem_append_left _ (List.mem_append_left _ (List.mem_append_left _ (List.mem_append_left _ (List.mem_append_left _ (List.mem_append_left _ (List.mem_append_left _ (List.mem_append_right _ h)))))))))))
theorem inX11 : ∀ w ∈ wsX110, w ∈ lw_tbl := fun w h => wsL_law_in w (inlX11 w h)
theorem inJ9 : ∀ w ∈ wsJ90, w ∈ lw_tbl := by decide +kernel
theorem inJ7 : ∀ w ∈ wsJ70, w ∈ lw_tbl := by decide +kernel
set_option maxRecDepth 20000 in
theorem ggL_law_X10_init : GoodIn wsL_law wsX10_init := goodIn_r _ [8, 9, 10, 11, 12, 13, 14, 15, 16, 17, 18, 19, 20, 21, 22, 23, 24, 25, 26, 27, 28, 29, 30, 31, 32, 33, 34, 35, 36, 37, 38, 39, 40, 41, 42, 43, 44, 45, 46, 47, 48, 49, 50, 51, 52, 53, 54, 55, 56, 57, 58, 59, 60, 61, 62, 63, 64, 65, 66, 67, 68, 69, 70, 71, 72, 73, 74, 75, 76, 77, 78, 79, 80, 81, 82, 83, 84, 85, 86, 87, 88, 89, 90, 91, 92, 93, 94, 95, 96, 97, 98, 99, 100, 101, 102, 103, 104, 105, 106, 107, 108, 109, 110, 111, 112, 113, 114, 115, 116, 117, 118, 119, 120, 121, 122, 123, 124, 125, 126, 127, 128, 129, 130, 131, 132, 133, 134, 135, 136, 137, 138, 785, 786, 787, 788, 789, 790, 791, 792, 793, 794, 795, 827, 828, 829, 830, 831, 832, 833, 834, 835, 836, 837, 838, 839, 840, 841, 842, 843, 844, 845, 846, 847, 848, 849, 850, 851, 852, 853, 854, 855, 856, 857, 858, 859, 860, 861, 862, 863, 864, 865, 866, 867, 868, 869, 870, 871, 872, 873, 874] (by decide +kernel) (by decide +kernel)
set_option maxRecDepth 20000 in
theorem gL_law_X10_init : GoodIn wsL_law (wsX10_init) := ggL_law_X10_init
set_option maxRecDepth 20000 in
theorem ggL_law_X11_init : GoodIn wsL_law wsX11_init := goodIn_r _ [141, 142, 10, 11, 143, 51, 144, 145, 146, 147, 148, 149, 150, 151, 152, 153, 154, 155, 156, 157, 158, 159, 64, 160, 161, 796, 797, 798, 799, 800, 801, 802, 803, 804, 805, 806, 807, 808, 809, 810, 811, 812, 813, 814, 815, 816, 817, 818, 819, 820, 821, 822, 823, 824, 825, 826] (by decide +kernel) (by decide +kernel)
set_option maxRecDepth 20000 in
theorem gL_law_X11_init : GoodIn wsL_law (wsX11_init) := ggL_law_X11_init
set_option maxRecDepth 20000 in
theorem ggL_law_X10_stuff : GoodIn wsL_law wsX10_stuff := goodIn_r _ [165, 35, 13, 166, 167, 2, 168, 169, 170, 171, 172, 173, 174, 38, 175, 92, 93, 94, 95, 98, 176, 177, 178, 179, 785, 786, 787, 788, 789, 790, 791, 792, 793, 794, 795, 840, 841, 842, 843, 844, 845, 846] (by decide +kernel) (by decide +kernel)
set_option maxRecDepth 20000 in
theorem gL_law_X10_stuff : GoodIn wsL_law (wsV RL 13 RX10 yX10_stuff wsX10_stuff) := goodIn_app (goodIn_of _ (by decide +kernel)) ggL_law_X10_stuff
set_option maxRecDepth 20000 in
theorem ggL_law_X11_stuff : GoodIn wsL_law wsX11_stuff := goodIn_r _ [183, 184, 144, 145, 146, 147, 148, 185, 186, 5, 187, 796, 797, 798, 799, 800, 801, 802, 803, 804, 805, 806, 807, 808, 809, 810, 811, 812, 813, 814, 815, 816, 817, 818, 819, 820, 821, 822, 823, 824, 825, 826] (by decide +kernel) (by decide +kernel)
set_option maxRecDepth 20000 in
theorem gL_law_X11_stuff : GoodIn wsL_law (wsV RL 17 RX11 yX11_stuff wsX11_stuff) := goodIn_app (goodIn_of _ (by decide +kernel)) ggL_law_X11_stuff
set_option maxRecDepth 20000 in
theorem ggL_law_X10_strength : GoodIn wsL_law wsX10_strength := goodIn_r _ [191, 13, 192, 193, 194, 195, 2, 196, 35, 169, 170, 171, 785, 786, 787, 788, 789, 790, 791, 792, 793, 794, 795, 840, 841, 842, 843, 844, 845, 846] (by decide +kernel) (by decide +kernel)
set_option maxRecDepth 20000 in
theorem gL_law_X10_strength : GoodIn wsL_law (wsV RL 18 RX10 yX10_strength wsX10_strength) := goodIn_app (goodIn_of _ (by decide +kernel)) ggL_law_X10_strength
set_option maxRecDepth 20000 in
theorem ggL_law_X11_strength : GoodIn wsL_law wsX11_strength := goodIn_r _ [200, 148, 201, 202, 203, 5, 204, 184, 185, 186, 187, 796, 797, 798, 799, 800, 801, 802, 803, 804, 805, 806, 807, 808, 809, 810, 811, 812, 813, 814, 815, 816, 817, 818, 819, 820, 821, 822, 823, 824, 825, 826] (by decide +kernel) (by decide +kernel)
set_option maxRecDepth 20000 in
theorem gL_law_X11_strength : GoodIn wsL_law (wsV RL 22 RX11 yX11_strength wsX11_strength) := goodIn_app (goodIn_of _ (by decide +kernel)) ggL_law_X11_strength
set_option maxRecDepth 20000 in
theorem ggL_law_X10_growth : GoodIn wsL_law wsX10_growth := goodIn_r _ [208, 13, 209, 210, 193, 194, 195, 2, 196, 35, 169, 170, 171, 785, 786, 787, 788, 789, 790, 791, 792, 793, 794, 795, 840, 841, 842, 843, 844, 845, 846] (by decide +kernel) (by decide +kernel)
set_option maxRecDepth 20000 in
theorem gL_law_X10_growth : GoodIn wsL_law (wsV RL 23 RX10 yX10_growth wsX10_growth) := goodIn_app (goodIn_of _ (by decide +kernel)) ggL_law_X10_growth
set_option maxRecDepth 20000 in
theorem ggL_law_X11_growth : GoodIn wsL_law wsX11_growth := goodIn_r _ [214, 149, 150, 201, 202, 203, 5, 204, 184, 185, 186, 187, 796, 797, 798, 799, 800, 801, 802, 803, 804, 805, 806, 807, 808, 809, 810, 811, 812, 813, 814, 815, 816, 817, 818, 819, 820, 821, 822, 823, 824, 825, 826] (by decide +kernel) (by decide +kernel)
set_option maxRecDepth 20000 in
theorem gL_law_X11_growth : GoodIn wsL_law (wsV RL 26 RX11 yX11_growth wsX11_growth) := goodIn_app (goodIn_of _ (by decide +kernel)) ggL_law_X11_growth
set_option maxRecDepth 20000 in
theorem ggL_law_X10_plate : GoodIn wsL_law wsX10_plate := goodIn_r _ [218, 36, 785, 786, 787, 788, 789, 790, 791, 792, 793, 794, 795] (by decide +kernel) (by decide +kernel)
set_option maxRecDepth 20000 in
theorem gL_law_X10_plate : GoodIn wsL_law (wsV RL 27 RX10 yX10_plate wsX10_plate) := goodIn_app (goodIn_of _ (by decide +kernel)) ggL_law_X10_plate
set_option maxRecDepth 20000 in
theorem ggL_law_X11_plate : GoodIn wsL_law wsX11_plate := goodIn_r _ [222, 223, 151, 796, 797, 798, 799, 800, 801, 802, 803, 804, 805, 806, 807, 808, 809, 810, 811, 812, 813, 814, 815, 816, 817, 818, 819, 820, 821, 822, 823, 824, 825, 826] (by decide +kernel) (by decide +kernel)
set_option maxRecDepth 20000 in
theorem gL_law_X11_plate : GoodIn wsL_law (wsV RL 31 RX11 yX11_plate wsX11_plate) := goodIn_app (goodIn_of _ (by decide +kernel)) ggL_law_X11_plate
set_option maxRecDepth 20000 in
theorem ggL_law_X10_lay : GoodIn wsL_law wsX10_lay := goodIn_r _ [227, 15, 228, 229, 230, 231, 2, 232, 36, 169, 170, 171, 193, 194, 195, 196, 35, 233, 234, 235, 29, 236, 74, 237, 238, 239, 240, 73, 241, 242, 243, 244, 76, 245, 80, 81, 82, 83, 785, 786, 787, 788, 789, 790, 791, 792, 793, 794, 795, 836, 837, 867, 868, 869, 870] (by decide +kernel) (by decide +kernel)
set_option maxRecDepth 20000 in
theorem gL_law_X10_lay : GoodIn wsL_law (wsV RL 32 RX10 yX10_lay wsX10_lay) := goodIn_app (goodIn_of _ (by decide +kernel)) ggL_law_X10_lay
set_option maxRecDepth 20000 in
theorem ggL_law_X11_lay : GoodIn wsL_law wsX11_lay := goodIn_r _ [249, 151, 250, 251, 252, 5, 253, 223, 185, 186, 187, 201, 202, 203, 204, 184, 254, 255, 256, 257, 152, 153, 154, 155, 258, 259, 260, 796, 797, 798, 799, 800, 801, 802, 803, 804, 805, 806, 807, 808, 809, 810, 811, 812, 813, 814, 815, 816, 817, 818, 819, 820, 821, 822, 823, 824, 825, 826] (by decide +kernel) (by decide +kernel)
set_option maxRecDepth 20000 in
theorem gL_law_X11_lay : GoodIn wsL_law (wsV RL 35 RX11 yX11_lay wsX11_lay) := goodIn_app (goodIn_of _ (by decide +kernel)) ggL_law_X11_lay
set_option maxRecDepth 20000 in
theorem ggL_law_X10_peel : GoodIn wsL_law wsX10_peel := goodIn_r _ [264, 15, 228, 229, 230, 231, 2, 232, 36, 169, 170, 171, 785, 786, 787, 788, 789, 790, 791, 792, 793, 794, 795, 836, 837] (by decide +kernel) (by decide +kernel)
set_option maxRecDepth 20000 in
theorem gL_law_X10_peel : GoodIn wsL_law (wsV RL 36 RX10 yX10_peel wsX10_peel) := goodIn_app (goodIn_of _ (by decide +kernel)) ggL_law_X10_peel
set_option maxRecDepth 20000 in
theorem ggL_law_X11_peel : GoodIn wsL_law wsX11_peel := goodIn_r _ [268, 151, 250, 251, 252, 5, 253, 223, 185, 186, 187, 796, 797, 798, 799, 800, 801, 802, 803, 804, 805, 806, 807, 808, 809, 810, 811, 812, 813, 814, 815, 816, 817, 818, 819, 820, 821, 822, 823, 824, 825, 826] (by decide +kernel) (by decide +kernel)
set_option maxRecDepth 20000 in
theorem gL_law_X11_peel : GoodIn wsL_law (wsV RL 40 RX11 yX11_peel wsX11_peel) := goodIn_app (goodIn_of _ (by decide +kernel)) ggL_law_X11_peel
set_option maxRecDepth 20000 in
theorem ggL_law_X10_hurt : GoodIn wsL_law wsX10_hurt := goodIn_r _ [272, 15, 273, 274, 275, 276, 277, 2, 278, 228, 229, 230, 231, 232, 36, 169, 170, 171, 785, 786, 787, 788, 789, 790, 791, 792, 793, 794, 795, 836, 837, 867, 868, 869, 870] (by decide +kernel) (by decide +kernel)
set_option maxRecDepth 20000 in
theorem gL_law_X10_hurt : GoodIn wsL_law (wsV RL 41 RX10 yX10_hurt wsX10_hurt) := goodIn_app (goodIn_of _ (by decide +kernel)) ggL_law_X10_hurt
set_option maxRecDepth 20000 in
theorem ggL_law_X11_hurt : GoodIn wsL_law wsX11_hurt := goodIn_r _ [282, 155, 283, 284, 285, 5, 286, 151, 250, 251, 252, 253, 223, 185, 186, 187, 258, 259, 260, 796, 797, 798, 799, 800, 801, 802, 803, 804, 805, 806, 807, 808, 809, 810, 811, 812, 813, 814, 815, 816, 817, 818, 819, 820, 821, 822, 823, 824, 825, 826] (by decide +kernel) (by decide +kernel)
set_option maxRecDepth 20000 in
theorem gL_law_X11_hurt : GoodIn wsL_law (wsV RL 44 RX11 yX11_hurt wsX11_hurt) := goodIn_app (goodIn_of _ (by decide +kernel)) ggL_law_X11_hurt
set_option maxRecDepth 20000 in
theorem ggL_law_X10_layer : GoodIn wsL_law wsX10_layer := goodIn_r _ [290, 15, 273, 291, 292, 293, 274, 42, 275, 276, 277, 2, 278, 228, 229, 230, 231, 232, 36, 169, 170, 171, 294, 295, 296, 41, 297, 107, 298, 299, 300, 301, 106, 118, 302, 303, 304, 305, 306, 307, 105, 308, 309, 122, 310, 123, 311, 124, 312, 125, 313, 314, 315, 316, 785, 786, 787, 788, 789, 790, 791, 792, 793, 794, 795, 836, 837, 867, 868, 869, 870, 847, 848, 849, 850, 851, 852, 853, 854, 855, 856, 857, 858, 859, 840, 841, 842, 843, 844, 845, 846, 871, 872, 873, 874] (by decide +kernel) (by decide +kernel)
set_option maxRecDepth 20000 in
theorem gL_law_X10_layer : GoodIn wsL_law (wsV RL 45 RX10 yX10_layer wsX10_layer) := goodIn_app (goodIn_of _ (by decide +kernel)) ggL_law_X10_layer
set_option maxRecDepth 20000 in
theorem ggL_law_X11_layer : GoodIn wsL_law wsX11_layer := goodIn_r _ [320, 152, 153, 154, 155, 283, 284, 285, 5, 286, 151, 250, 251, 252, 253, 223, 185, 186, 187, 258, 259, 260, 321, 322, 323, 324, 325, 326, 327, 328, 144, 145, 146, 147, 796, 797, 798, 799, 800, 801, 802, 803, 804, 805, 806, 807, 808, 809, 810, 811, 812, 813, 814, 815, 816, 817, 818, 819, 820, 821, 822, 823, 824, 825, 826] (by decide +kernel) (by decide +kernel)
set_option maxRecDepth 20000 in
theorem gL_law_X11_layer : GoodIn wsL_law (wsV RL 48 RX11 yX11_layer wsX11_layer) := goodIn_app (goodIn_of _ (by decide +kernel)) ggL_law_X11_layer
set_option maxRecDepth 20000 in
theorem ggL_law_X10_table : GoodIn wsL_law wsX10_table := goodIn_r _ [332, 333, 42, 15, 334, 229, 230, 231, 2, 232, 36, 169, 170, 171, 335, 336, 337, 41, 338, 109, 339, 340, 341, 342, 107, 343, 344, 178, 345, 346, 347, 348, 29, 349, 74, 73, 350, 298, 299, 300, 301, 106, 118, 302, 303, 304, 305, 306, 307, 105, 308, 309, 122, 310, 123, 311, 124, 312, 125, 313, 314, 315, 316, 351, 352, 353, 785, 786, 787, 788, 789, 790, 791, 792, 793, 794, 795, 847, 848, 849, 850, 851, 852, 853, 854, 855, 856, 857, 858, 859, 836, 837, 867, 868, 869, 870, 840, 841, 842, 843, 844, 845, 846, 871, 872, 873, 874] (by decide +kernel) (by decide +kernel)
set_option maxRecDepth 20000 in
theorem gL_law_X10_table : GoodIn wsL_law (wsV RL 49 RX10 yX10_table wsX10_table) := goodIn_app (goodIn_of _ (by decide +kernel)) ggL_law_X10_table
set_option maxRecDepth 20000 in
theorem ggL_law_X11_table : GoodIn wsL_law wsX11_table := goodIn_r _ [357, 358, 250, 251, 252, 5, 253, 223, 185, 186, 187, 359, 360, 361, 362, 151, 154, 363, 364, 365, 366, 258, 259, 260, 321, 322, 323, 324, 153, 325, 326, 327, 328, 155, 152, 144, 145, 146, 147, 796, 797, 798, 799, 800, 801, 802, 803, 804, 805, 806, 807, 808, 809, 810, 811, 812, 813, 814, 815, 816, 817, 818, 819, 820, 821, 822, 823, 824, 825, 826] (by decide +kernel) (by decide +kernel)
set_option maxRecDepth 20000 in
theorem gL_law_X11_table : GoodIn wsL_law (wsV RL 53 RX11 yX11_table wsX11_table) := goodIn_app (goodIn_of _ (by decide +kernel)) ggL_law_X11_table
set_option maxRecDepth 20000 in
theorem ggL_law_X10_tied : GoodIn wsL_law wsX10_tied := goodIn_r _ [370, 42, 15, 334, 229, 230, 231, 2, 232, 36, 169, 170, 171, 335, 336, 337, 41, 338, 109, 339, 340, 341, 342, 107, 343, 344, 178, 345, 346, 347, 348, 29, 349, 74, 73, 350, 298, 299, 300, 301, 106, 118, 302, 303, 304, 305, 306, 307, 105, 308, 309, 122, 310, 123, 311, 124, 312, 125, 313, 314, 315, 316, 351, 352, 353, 371, 372, 373, 374, 375, 376, 377, 785, 786, 787, 788, 789, 790, 791, 792, 793, 794, 795, 847, 848, 849, 850, 851, 852, 853, 854, 855, 856, 857, 858, 859, 836, 837, 867, 868, 869, 870, 840, 841, 842, 843, 844, 845, 846, 871, 872, 873, 874] (by decide +kernel) (by decide +kernel)
set_option maxRecDepth 20000 in
theorem gL_law_X10_tied : GoodIn wsL_law (wsV RL 54 RX10 yX10_tied wsX10_tied) := goodIn_app (goodIn_of _ (by decide +kernel)) ggL_law_X10_tied
set_option maxRecDepth 20000 in
theorem ggL_law_X11_tied : GoodIn wsL_law wsX11_tied := goodIn_r _ [381, 250, 251, 252, 5, 253, 223, 185, 186, 187, 359, 360, 361, 362, 151, 154, 363, 364, 365, 366, 258, 259, 260, 321, 322, 323, 324, 153, 325, 326, 327, 328, 155, 152, 144, 145, 146, 147, 796, 797, 798, 799, 800, 801, 802, 803, 804, 805, 806, 807, 808, 809, 810, 811, 812, 813, 814, 815, 816, 817, 818, 819, 820, 821, 822, 823, 824, 825, 826] (by decide +kernel) (by decide +kernel)
set_option maxRecDepth 20000 in
theorem gL_law_X11_tied : GoodIn wsL_law (wsV RL 57 RX11 yX11_tied wsX11_tied) := goodIn_app (goodIn_of _ (by decide +kernel)) ggL_law_X11_tied
set_option maxRecDepth 20000 in
theorem ggL_law_X10_even : GoodIn wsL_law wsX10_even := goodIn_r _ [385, 15, 229, 230, 231, 2, 232, 36, 169, 170, 171, 386, 387, 388, 29, 389, 74, 73, 390, 391, 392, 76, 393, 80, 81, 82, 83, 785, 786, 787, 788, 789, 790, 791, 792, 793, 794, 795, 836, 837, 867, 868, 869, 870] (by decide +kernel) (by decide +kernel)
set_option maxRecDepth 20000 in
theorem gL_law_X10_even : GoodIn wsL_law (wsV RL 58 RX10 yX10_even wsX10_even) := goodIn_app (goodIn_of _ (by decide +kernel)) ggL_law_X10_even
set_option maxRecDepth 20000 in
theorem ggL_law_X11_even : GoodIn wsL_law wsX11_even := goodIn_r _ [397, 250, 251, 252, 5, 253, 223, 185, 186, 187, 398, 399, 400, 401, 151, 258, 259, 260, 402, 403, 404, 405, 152, 153, 154, 155, 796, 797, 798, 799, 800, 801, 802, 803, 804, 805, 806, 807, 808, 809, 810, 811, 812, 813, 814, 815, 816, 817, 818, 819, 820, 821, 822, 823, 824, 825, 826] (by decide +kernel) (by decide +kernel)
set_option maxRecDepth 20000 in
theorem gL_law_X11_even : GoodIn wsL_law (wsV RL 61 RX11 yX11_even wsX11_even) := goodIn_app (goodIn_of _ (by decide +kernel)) ggL_law_X11_even
set_option maxRecDepth 20000 in
theorem ggL_law_X10_determinant : GoodIn wsL_law wsX10_determinant := goodIn_r _ [409, 333, 42, 15, 410, 229, 230, 231, 2, 232, 36, 169, 170, 171, 411, 412, 413, 41, 414, 109, 108, 111, 415, 336, 337, 338, 339, 340, 341, 342, 107, 343, 344, 178, 345, 346, 347, 348, 29, 349, 74, 73, 350, 298, 299, 300, 301, 106, 118, 302, 303, 304, 305, 306, 307, 105, 308, 309, 122, 310, 123, 311, 124, 312, 125, 313, 314, 315, 316, 351, 352, 353, 785, 786, 787, 788, 789, 790, 791, 792, 793, 794, 795, 847, 848, 849, 850, 851, 852, 853, 854, 855, 856, 857, 858, 859, 836, 837, 867, 868, 869, 870, 840, 841, 842, 843, 844, 845, 846, 871, 872, 873, 874] (by decide +kernel) (by decide +kernel)
set_option maxRecDepth 20000 in
theorem gL_law_X10_determinant : GoodIn wsL_law (wsV RL 62 RX10 yX10_determinant wsX10_determinant) := goodIn_app (goodIn_of _ (by decide +kernel)) ggL_law_X10_determinant
set_option maxRecDepth 20000 in
theorem ggL_law_X11_determinant : GoodIn wsL_law wsX11_determinant := goodIn_r _ [419, 358, 420, 250, 251, 252, 5, 253, 223, 185, 186, 187, 421, 422, 423, 424, 425, 426, 427, 359, 360, 361, 362, 151, 154, 363, 364, 365, 366, 258, 259, 260, 321, 322, 323, 324, 153, 325, 326, 327, 328, 155, 152, 144, 145, 146, 147, 796, 797, 798, 799, 800, 801, 802, 803, 804, 805, 806, 807, 808, 809, 810, 811, 812, 813, 814, 815, 816, 817, 818, 819, 820, 821, 822, 823, 824, 825, 826] (by decide +kernel) (by decide +kernel)
set_option maxRecDepth 20000 in
theorem gL_law_X11_determinant : GoodIn wsL_law (wsV RL 66 RX11 yX11_determinant wsX11_determinant) := goodIn_app (goodIn_of _ (by decide +kernel)) ggL_law_X11_determinant
set_option maxRecDepth 20000 in
theorem ggL_law_X10_stretch : GoodIn wsL_law wsX10_stretch := goodIn_r _ [431, 333, 42, 15, 229, 230, 231, 2, 232, 36, 169, 170, 171, 432, 433, 434, 411, 412, 413, 41, 414, 109, 108, 111, 415, 336, 337, 338, 339, 340, 341, 342, 107, 343, 344, 178, 345, 346, 347, 348, 29, 349, 74, 73, 350, 298, 299, 300, 301, 106, 118, 302, 303, 304, 305, 306, 307, 105, 308, 309, 122, 310, 123, 311, 124, 312, 125, 313, 314, 315, 316, 351, 352, 353, 435, 436, 437, 438, 439, 440, 441, 442, 443, 110, 444, 445, 446, 447, 410, 34, 448, 449, 450, 451, 33, 452, 453, 454, 455, 456, 87, 88, 457, 458, 459, 460, 461, 462, 463, 464, 785, 786, 787, 788, 789, 790, 791, 792, 793, 794, 795, 847, 848, 849, 850, 851, 852, 853, 854, 855, 856, 857, 858, 859, 836, 837, 867, 868, 869, 870, 840, 841, 842, 843, 844, 845, 846, 871, 872, 873, 874, 838, 839] (by decide +kernel) (by decide +kernel)
set_option maxRecDepth 20000 in
theorem gL_law_X10_stretch : GoodIn wsL_law (wsV RL 67 RX10 yX10_stretch wsX10_stretch) := goodIn_app (goodIn_of _ (by decide +kernel)) ggL_law_X10_stretch
set_option maxRecDepth 20000 in
theorem ggL_law_X11_stretch : GoodIn wsL_law wsX11_stretch := goodIn_r _ [468, 358, 469, 250, 251, 252, 5, 253, 223, 185, 186, 187, 470, 471, 472, 421, 422, 423, 424, 420, 425, 426, 427, 359, 360, 361, 362, 151, 154, 363, 364, 365, 366, 258, 259, 260, 321, 322, 323, 324, 153, 325, 326, 327, 328, 155, 152, 144, 145, 146, 147, 473, 474, 475, 476, 477, 478, 479, 480, 481, 482, 483, 796, 797, 798, 799, 800, 801, 802, 803, 804, 805, 806, 807, 808, 809, 810, 811, 812, 813, 814, 815, 816, 817, 818, 819, 820, 821, 822, 823, 824, 825, 826] (by decide +kernel) (by decide +kernel)
set_option maxRecDepth 20000 in
theorem gL_law_X11_stretch : GoodIn wsL_law (wsV RL 71 RX11 yX11_stretch wsX11_stretch) := goodIn_app (goodIn_of _ (by decide +kernel)) ggL_law_X11_stretch
set_option maxRecDepth 20000 in
theorem ggL_law_X10_warm : GoodIn wsL_law wsX10_warm := goodIn_r _ [487, 333, 42, 15, 229, 230, 231, 2, 232, 36, 169, 170, 171, 411, 412, 413, 41, 414, 109, 108, 111, 415, 336, 337, 338, 339, 340, 341, 342, 107, 343, 344, 178, 345, 346, 347, 348, 29, 349, 74, 73, 350, 298, 299, 300, 301, 106, 118, 302, 303, 304, 305, 306, 307, 105, 308, 309, 122, 310, 123, 311, 124, 312, 125, 313, 314, 315, 316, 351, 352, 353, 488, 489, 490, 491, 492, 493, 494, 495, 496, 439, 440, 441, 442, 443, 110, 444, 445, 446, 447, 410, 34, 448, 449, 450, 451, 33, 452, 453, 454, 455, 456, 87, 88, 457, 458, 459, 460, 461, 462, 463, 464, 785, 786, 787, 788, 789, 790, 791, 792, 793, 794, 795, 847, 848, 849, 850, 851, 852, 853, 854, 855, 856, 857, 858, 859, 836, 837, 867, 868, 869, 870, 840, 841, 842, 843, 844, 845, 846, 871, 872, 873, 874, 838, 839] (by decide +kernel) (by decide +kernel)
set_option maxRecDepth 20000 in
theorem gL_law_X10_warm : GoodIn wsL_law (wsV RL 72 RX10 yX10_warm wsX10_warm) := goodIn_app (goodIn_of _ (by decide +kernel)) ggL_law_X10_warm
set_option maxRecDepth 20000 in
theorem ggL_law_X11_warm : GoodIn wsL_law wsX11_warm := goodIn_r _ [500, 358, 151, 154, 149, 152, 150, 153, 469, 501, 250, 251, 252, 5, 253, 223, 185, 186, 187, 258, 259, 260, 325, 326, 327, 328, 155, 144, 145, 146, 147, 421, 422, 423, 424, 420, 425, 426, 427, 359, 360, 361, 362, 363, 364, 365, 366, 321, 322, 323, 324, 473, 474, 475, 476, 477, 478, 479, 480, 481, 482, 483, 796, 797, 798, 799, 800, 801, 802, 803, 804, 805, 806, 807, 808, 809, 810, 811, 812, 813, 814, 815, 816, 817, 818, 819, 820, 821, 822, 823, 824, 825, 826] (by decide +kernel) (by decide +kernel)
set_option maxRecDepth 20000 in
theorem gL_law_X11_warm : GoodIn wsL_law (wsV RL 76 RX11 yX11_warm wsX11_warm) := goodIn_app (goodIn_of _ (by decide +kernel)) ggL_law_X11_warm
set_option maxRecDepth 20000 in
theorem ggL_law_X10_holds : GoodIn wsL_law wsX10_holds := goodIn_r _ [505, 42, 15, 229, 230, 231, 2, 232, 36, 169, 170, 171, 432, 433, 434, 411, 412, 413, 41, 414, 109, 108, 111, 415, 336, 337, 338, 339, 340, 341, 342, 107, 343, 344, 178, 345, 346, 347, 348, 29, 349, 74, 73, 350, 298, 299, 300, 301, 106, 118, 302, 303, 304, 305, 306, 307, 105, 308, 309, 122, 310, 123, 311, 124, 312, 125, 313, 314, 315, 316, 351, 352, 353, 506, 507, 508, 509, 116, 510, 511, 512, 513, 115, 117, 514, 112, 515, 454, 455, 456, 113, 114, 516, 436, 437, 438, 439, 440, 441, 442, 443, 110, 517, 518, 519, 520, 521, 522, 523, 524, 525, 492, 494, 496, 526, 527, 528, 529, 530, 531, 532, 533, 534, 785, 786, 787, 788, 789, 790, 791, 792, 793, 794, 795, 847, 848, 849, 850, 851, 852, 853, 854, 855, 856, 857, 858, 859, 836, 837, 867, 868, 869, 870, 840, 841, 842, 843, 844, 845, 846, 871, 872, 873, 874] (by decide +kernel) (by decide +kernel)
set_option maxRecDepth 20000 in
theorem gL_law_X10_holds : GoodIn wsL_law (wsV RL 77 RX10 yX10_holds wsX10_holds) := goodIn_app (goodIn_of _ (by decide +kernel)) ggL_law_X10_holds
set_option maxRecDepth 20000 in
theorem ggL_law_X11_holds : GoodIn wsL_law wsX11_holds := goodIn_r _ [538, 250, 251, 252, 5, 253, 223, 185, 186, 187, 470, 471, 472, 539, 540, 541, 542, 469, 420, 543, 544, 501, 421, 422, 423, 424, 425, 426, 427, 359, 360, 361, 362, 151, 154, 363, 364, 365, 366, 258, 259, 260, 321, 322, 323, 324, 153, 325, 326, 327, 328, 155, 152, 144, 145, 146, 147, 545, 546, 547, 548, 549, 550, 551, 552, 553, 554, 555, 556, 557, 558, 559, 560, 561, 148, 562, 563, 564, 796, 797, 798, 799, 800, 801, 802, 803, 804, 805, 806, 807, 808, 809, 810, 811, 812, 813, 814, 815, 816, 817, 818, 819, 820, 821, 822, 823, 824, 825, 826] (by decide +kernel) (by decide +kernel)
set_option maxRecDepth 20000 in
theorem gL_law_X11_holds : GoodIn wsL_law (wsV RL 80 RX11 yX11_holds wsX11_holds) := goodIn_app (goodIn_of _ (by decide +kernel)) ggL_law_X11_holds
set_option maxRecDepth 20000 in
theorem ggL_law_X10_first : GoodIn wsL_law wsX10_first := goodIn_r _ [568, 42, 15, 410, 569, 229, 230, 231, 2, 232, 36, 169, 170, 171, 411, 412, 413, 41, 414, 109, 108, 111, 415, 336, 337, 338, 339, 340, 341, 342, 107, 343, 344, 178, 345, 346, 347, 348, 29, 349, 74, 73, 350, 298, 299, 300, 301, 106, 118, 302, 303, 304, 305, 306, 307, 105, 308, 309, 122, 310, 123, 311, 124, 312, 125, 313, 314, 315, 316, 351, 352, 353, 432, 433, 434, 570, 511, 512, 513, 115, 116, 117, 514, 112, 515, 454, 455, 456, 113, 114, 516, 436, 437, 438, 439, 440, 441, 442, 443, 110, 517, 518, 519, 520, 521, 522, 523, 524, 525, 492, 494, 496, 526, 527, 528, 529, 530, 785, 786, 787, 788, 789, 790, 791, 792, 793, 794, 795, 847, 848, 849, 850, 851, 852, 853, 854, 855, 856, 857, 858, 859, 836, 837, 867, 868, 869, 870, 840, 841, 842, 843, 844, 845, 846, 871, 872, 873, 874] (by decide +kernel) (by decide +kernel)
set_option maxRecDepth 20000 in
theorem gL_law_X10_first : GoodIn wsL_law (wsV RL 81 RX10 yX10_first wsX10_first) := goodIn_app (goodIn_of _ (by decide +kernel)) ggL_law_X10_first
set_option maxRecDepth 20000 in
theorem ggL_law_X11_first : GoodIn wsL_law wsX11_first := goodIn_r _ [574, 469, 250, 251, 252, 5, 253, 223, 185, 186, 187, 470, 471, 472, 421, 422, 423, 424, 420, 425, 426, 427, 359, 360, 361, 362, 151, 154, 363, 364, 365, 366, 258, 259, 260, 321, 322, 323, 324, 153, 325, 326, 327, 328, 155, 152, 144, 145, 146, 147, 545, 546, 547, 548, 543, 544, 549, 550, 551, 552, 553, 554, 555, 556, 501, 557, 558, 559, 560, 561, 148, 562, 563, 564, 796, 797, 798, 799, 800, 801, 802, 803, 804, 805, 806, 807, 808, 809, 810, 811, 812, 813, 814, 815, 816, 817, 818, 819, 820, 821, 822, 823, 824, 825, 826] (by decide +kernel) (by decide +kernel)
set_option maxRecDepth 20000 in
theorem gL_law_X11_first : GoodIn wsL_law (wsV RL 84 RX11 yX11_first wsX11_first) := goodIn_app (goodIn_of _ (by decide +kernel)) ggL_law_X11_first
set_option maxRecDepth 20000 in
theorem ggL_law_X10_factor : GoodIn wsL_law wsX10_factor := goodIn_r _ [578, 333, 42, 15, 569, 34, 579, 229, 230, 231, 2, 232, 36, 169, 170, 171, 432, 433, 434, 411, 412, 413, 41, 414, 109, 108, 111, 415, 336, 337, 338, 339, 340, 341, 342, 107, 343, 344, 178, 345, 346, 347, 348, 29, 349, 74, 73, 350, 298, 299, 300, 301, 106, 118, 302, 303, 304, 305, 306, 307, 105, 308, 309, 122, 310, 123, 311, 124, 312, 125, 313, 314, 315, 316, 351, 352, 353, 570, 511, 512, 513, 115, 116, 117, 514, 112, 515, 454, 455, 456, 113, 114, 516, 436, 437, 438, 439, 440, 441, 442, 443, 110, 517, 518, 519, 520, 521, 522, 523, 524, 525, 492, 494, 496, 526, 527, 528, 529, 530, 580, 532, 533, 534, 449, 450, 451, 33, 452, 453, 87, 88, 457, 458, 459, 460, 461, 462, 463, 464, 785, 786, 787, 788, 789, 790, 791, 792, 793, 794, 795, 847, 848, 849, 850, 851, 852, 853, 854, 855, 856, 857, 858, 859, 836, 837, 867, 868, 869, 870, 840, 841, 842, 843, 844, 845, 846, 871, 872, 873, 874, 838, 839] (by decide +kernel) (by decide +kernel)
set_option maxRecDepth 20000 in
theorem gL_law_X10_factor : GoodIn wsL_law (wsV RL 85 RX10 yX10_factor wsX10_factor) := goodIn_app (goodIn_of _ (by decide +kernel)) ggL_law_X10_factor
set_option maxRecDepth 20000 in
theorem ggL_law_X11_factor : GoodIn wsL_law wsX11_factor := goodIn_r _ [584, 358, 469, 250, 251, 252, 5, 253, 223, 185, 186, 187, 470, 471, 472, 421, 422, 423, 424, 420, 425, 426, 427, 359, 360, 361, 362, 151, 154, 363, 364, 365, 366, 258, 259, 260, 321, 322, 323, 324, 153, 325, 326, 327, 328, 155, 152, 144, 145, 146, 147, 545, 546, 547, 548, 543, 544, 549, 550, 551, 552, 553, 554, 555, 556, 501, 557, 558, 559, 560, 561, 148, 562, 563, 564, 585, 586, 587, 588, 481, 482, 483, 796, 797, 798, 799, 800, 801, 802, 803, 804, 805, 806, 807, 808, 809, 810, 811, 812, 813, 814, 815, 816, 817, 818, 819, 820, 821, 822, 823, 824, 825, 826] (by decide +kernel) (by decide +kernel)
set_option maxRecDepth 20000 in
theorem gL_law_X11_factor : GoodIn wsL_law (wsV RL 89 RX11 yX11_factor wsX11_factor) := goodIn_app (goodIn_of _ (by decide +kernel)) ggL_law_X11_factor
set_option maxRecDepth 20000 in
theorem ggL_law_X10_breaks : GoodIn wsL_law wsX10_breaks := goodIn_r _ [592, 30, 15, 27, 593, 42, 569, 34, 579, 229, 230, 231, 2, 232, 36, 169, 170, 171, 432, 433, 434, 594, 595, 596, 29, 597, 74, 73, 598, 599, 350, 600, 242, 243, 244, 76, 245, 80, 81, 82, 83, 411, 412, 413, 41, 414, 109, 108, 111, 415, 336, 337, 338, 339, 340, 341, 342, 107, 343, 344, 178, 345, 346, 347, 348, 349, 298, 299, 300, 301, 106, 118, 302, 303, 304, 305, 306, 307, 105, 308, 309, 122, 310, 123, 311, 124, 312, 125, 313, 314, 315, 316, 351, 352, 353, 570, 511, 512, 513, 115, 116, 117, 514, 112, 515, 454, 455, 456, 113, 114, 516, 436, 437, 438, 439, 440, 441, 442, 443, 110, 517, 518, 519, 520, 521, 522, 523, 524, 525, 492, 494, 496, 526, 527, 528, 529, 530, 580, 532, 533, 534, 449, 450, 451, 33, 452, 453, 87, 88, 457, 458, 459, 601, 602, 603, 26, 604, 67, 63, 65, 605, 66, 606, 607, 608, 609, 610, 785, 786, 787, 788, 789, 790, 791, 792, 793, 794, 795, 832, 833, 834, 835, 847, 848, 849, 850, 851, 852, 853, 854, 855, 856, 857, 858, 859, 836, 837, 867, 868, 869, 870, 840, 841, 842, 843, 844, 845, 846, 871, 872, 873, 874, 838, 839] (by decide +kernel) (by decide +kernel)
set_option maxRecDepth 20000 in
theorem gL_law_X10_breaks : GoodIn wsL_law (wsV RL 90 RX10 yX10_breaks wsX10_breaks) := goodIn_app (goodIn_of _ (by decide +kernel)) ggL_law_X10_breaks
set_option maxRecDepth 20000 in
theorem ggL_law_X11_breaks : GoodIn wsL_law wsX11_breaks := goodIn_r _ [614, 615, 469, 159, 160, 161, 155, 250, 251, 252, 5, 253, 223, 185, 186, 187, 470, 471, 472, 616, 617, 618, 619, 151, 152, 153, 154, 258, 259, 260, 254, 255, 256, 257, 421, 422, 423, 424, 420, 425, 426, 427, 359, 360, 361, 362, 363, 364, 365, 366, 321, 322, 323, 324, 325, 326, 327, 328, 144, 145, 146, 147, 545, 546, 547, 548, 543, 544, 549, 550, 551, 552, 553, 554, 555, 556, 501, 557, 558, 559, 560, 561, 148, 562, 563, 564, 585, 586, 587, 588, 481, 482, 483, 796, 797, 798, 799, 800, 801, 802, 803, 804, 805, 806, 807, 808, 809, 810, 811, 812, 813, 814, 815, 816, 817, 818, 819, 820, 821, 822, 823, 824, 825, 826] (by decide +kernel) (by decide +kernel)
set_option maxRecDepth 20000 in
theorem gL_law_X11_breaks : GoodIn wsL_law (wsV RL 93 RX11 yX11_breaks wsX11_breaks) := goodIn_app (goodIn_of _ (by decide +kernel)) ggL_law_X11_breaks
set_option maxRecDepth 20000 in
theorem ggL_law_X10_step : GoodIn wsL_law wsX10_step := goodIn_r _ [623, 27, 593, 333, 624, 625, 626, 169, 170, 2, 171, 785, 786, 787, 788, 789, 790, 791, 792, 793, 794, 795, 832, 833, 834, 835] (by decide +kernel) (by decide +kernel)
set_option maxRecDepth 20000 in
theorem gL_law_X10_step : GoodIn wsL_law (wsV RL 94 RX10 yX10_step wsX10_step) := goodIn_app (goodIn_of _ (by decide +kernel)) ggL_law_X10_step
set_option maxRecDepth 20000 in
theorem ggL_law_X11_step : GoodIn wsL_law wsX11_step := goodIn_r _ [630, 615, 358, 159, 160, 161, 185, 186, 5, 187, 796, 797, 798, 799, 800, 801, 802, 803, 804, 805, 806, 807, 808, 809, 810, 811, 812, 813, 814, 815, 816, 817, 818, 819, 820, 821, 822, 823, 824, 825, 826] (by decide +kernel) (by decide +kernel)
set_option maxRecDepth 20000 in
theorem gL_law_X11_step : GoodIn wsL_law (wsV RL 98 RX11 yX11_step wsX11_step) := goodIn_app (goodIn_of _ (by decide +kernel)) ggL_law_X11_step
set_option maxRecDepth 20000 in
theorem ggL_law_X10_last : GoodIn wsL_law wsX10_last := goodIn_r _ [634, 27, 635, 636, 637, 26, 638, 67, 65, 66, 639, 640, 33, 641, 785, 786, 787, 788, 789, 790, 791, 792, 793, 794, 795, 832, 833, 834, 835] (by decide +kernel) (by decide +kernel)
set_option maxRecDepth 20000 in
theorem gL_law_X10_last : GoodIn wsL_law (wsV RL 99 RX10 yX10_last wsX10_last) := goodIn_app (goodIn_of _ (by decide +kernel)) ggL_law_X10_last
set_option maxRecDepth 20000 in
theorem ggL_law_X11_last : GoodIn wsL_law wsX11_last := goodIn_r _ [645, 615, 160, 161, 562, 563, 5, 564, 796, 797, 798, 799, 800, 801, 802, 803, 804, 805, 806, 807, 808, 809, 810, 811, 812, 813, 814, 815, 816, 817, 818, 819, 820, 821, 822, 823, 824, 825, 826] (by decide +kernel) (by decide +kernel)
set_option maxRecDepth 20000 in
theorem gL_law_X11_last : GoodIn wsL_law (wsV RL 102 RX11 yX11_last wsX11_last) := goodIn_app (goodIn_of _ (by decide +kernel)) ggL_law_X11_last
set_option maxRecDepth 20000 in
theorem ggL_law_X10_rules : GoodIn wsL_law wsX10_rules := goodIn_r _ [649, 23, 650, 651, 652, 169, 170, 2, 171, 785, 786, 787, 788, 789, 790, 791, 792, 793, 794, 795, 829, 830, 831] (by decide +kernel) (by decide +kernel)
set_option maxRecDepth 20000 in
theorem gL_law_X10_rules : GoodIn wsL_law (wsV RL 103 RX10 yX10_rules wsX10_rules) := goodIn_app (goodIn_of _ (by decide +kernel)) ggL_law_X10_rules
set_option maxRecDepth 20000 in
theorem ggL_law_X11_rules : GoodIn wsL_law wsX11_rules := goodIn_r _ [656, 143, 657, 658, 185, 186, 5, 187, 796, 797, 798, 799, 800, 801, 802, 803, 804, 805, 806, 807, 808, 809, 810, 811, 812, 813, 814, 815, 816, 817, 818, 819, 820, 821, 822, 823, 824, 825, 826] (by decide +kernel) (by decide +kernel)
set_option maxRecDepth 20000 in
theorem gL_law_X11_rules : GoodIn wsL_law (wsV RL 106 RX11 yX11_rules wsX11_rules) := goodIn_app (goodIn_of _ (by decide +kernel)) ggL_law_X11_rules
set_option maxRecDepth 20000 in
theorem ggL_law_X10_rule : GoodIn wsL_law wsX10_rule := goodIn_r _ [662, 23, 15, 229, 230, 231, 2, 232, 36, 169, 170, 171, 663, 664, 665, 22, 666, 58, 667, 668, 669, 670, 671, 672, 673, 57, 674, 675, 676, 677, 678, 679, 680, 681, 59, 785, 786, 787, 788, 789, 790, 791, 792, 793, 794, 795, 829, 830, 831, 836, 837, 867, 868, 869, 870] (by decide +kernel) (by decide +kernel)
set_option maxRecDepth 20000 in
theorem gL_law_X10_rule : GoodIn wsL_law (wsV RL 107 RX10 yX10_rule wsX10_rule) := goodIn_app (goodIn_of _ (by decide +kernel)) ggL_law_X10_rule
set_option maxRecDepth 20000 in
theorem ggL_law_X11_rule : GoodIn wsL_law wsX11_rule := goodIn_r _ [685, 250, 251, 252, 5, 253, 223, 185, 186, 187, 686, 687, 688, 689, 151, 153, 143, 657, 658, 258, 259, 260, 796, 797, 798, 799, 800, 801, 802, 803, 804, 805, 806, 807, 808, 809, 810, 811, 812, 813, 814, 815, 816, 817, 818, 819, 820, 821, 822, 823, 824, 825, 826] (by decide +kernel) (by decide +kernel)
set_option maxRecDepth 20000 in
theorem gL_law_X11_rule : GoodIn wsL_law (wsV RL 110 RX11 yX11_rule wsX11_rule) := goodIn_app (goodIn_of _ (by decide +kernel)) ggL_law_X11_rule
set_option maxRecDepth 20000 in
theorem ggL_law_X10_load : GoodIn wsL_law wsX10_load := goodIn_r _ [693, 19, 694, 432, 433, 2, 434, 169, 170, 171, 695, 696, 697, 18, 698, 53, 52, 785, 786, 787, 788, 789, 790, 791, 792, 793, 794, 795, 827, 828] (by decide +kernel) (by decide +kernel)
set_option maxRecDepth 20000 in
theorem gL_law_X10_load : GoodIn wsL_law (wsV RL 111 RX10 yX10_load wsX10_load) := goodIn_app (goodIn_of _ (by decide +kernel)) ggL_law_X10_load
set_option maxRecDepth 20000 in
theorem ggL_law_X11_load : GoodIn wsL_law wsX11_load := goodIn_r _ [702, 703, 156, 157, 158, 470, 471, 5, 472, 185, 186, 187, 796, 797, 798, 799, 800, 801, 802, 803, 804, 805, 806, 807, 808, 809, 810, 811, 812, 813, 814, 815, 816, 817, 818, 819, 820, 821, 822, 823, 824, 825, 826] (by decide +kernel) (by decide +kernel)
set_option maxRecDepth 20000 in
theorem gL_law_X11_load : GoodIn wsL_law (wsV RL 114 RX11 yX11_load wsX11_load) := goodIn_app (goodIn_of _ (by decide +kernel)) ggL_law_X11_load
set_option maxRecDepth 20000 in
theorem ggL_law_X10_unload : GoodIn wsL_law wsX10_unload := goodIn_r _ [707, 19, 694, 785, 786, 787, 788, 789, 790, 791, 792, 793, 794, 795, 827, 828] (by decide +kernel) (by decide +kernel)
set_option maxRecDepth 20000 in
theorem gL_law_X10_unload : GoodIn wsL_law (wsV RL 115 RX10 yX10_unload wsX10_unload) := goodIn_app (goodIn_of _ (by decide +kernel)) ggL_law_X10_unload
set_option maxRecDepth 20000 in
theorem ggL_law_X11_unload : GoodIn wsL_law wsX11_unload := goodIn_r _ [711, 703, 796, 797, 798, 799, 800, 801, 802, 803, 804, 805, 806, 807, 808, 809, 810, 811, 812, 813, 814, 815, 816, 817, 818, 819, 820, 821, 822, 823, 824, 825, 826] (by decide +kernel) (by decide +kernel)
set_option maxRecDepth 20000 in
theorem gL_law_X11_unload : GoodIn wsL_law (wsV RL 118 RX11 yX11_unload wsX11_unload) := goodIn_app (goodIn_of _ (by decide +kernel)) ggL_law_X11_unload
set_option maxRecDepth 20000 in
theorem ggL_law_X10_fewest : GoodIn wsL_law wsX10_fewest := goodIn_r _ [715, 46, 15, 716, 228, 229, 230, 231, 2, 232, 36, 169, 170, 171, 193, 194, 195, 196, 35, 717, 718, 719, 45, 720, 134, 721, 177, 178, 179, 722, 723, 724, 725, 133, 726, 727, 728, 729, 730, 731, 732, 132, 733, 135, 137, 734, 735, 736, 238, 239, 29, 240, 73, 74, 241, 234, 235, 236, 242, 243, 244, 76, 245, 80, 81, 82, 83, 737, 412, 413, 41, 414, 109, 108, 111, 415, 336, 337, 338, 339, 340, 341, 342, 107, 343, 344, 345, 346, 347, 348, 349, 350, 298, 299, 300, 301, 106, 118, 302, 303, 304, 305, 306, 307, 105, 308, 309, 122, 310, 123, 311, 124, 312, 125, 313, 314, 315, 316, 351, 352, 353, 738, 507, 508, 509, 116, 510, 511, 512, 513, 115, 117, 514, 112, 515, 454, 455, 456, 113, 114, 516, 436, 437, 438, 439, 440, 441, 442, 443, 110, 517, 518, 519, 520, 521, 522, 523, 524, 525, 492, 494, 496, 526, 527, 528, 529, 530, 531, 532, 533, 534, 739, 740, 741, 742, 131, 136, 743, 664, 665, 22, 666, 58, 667, 668, 669, 670, 671, 672, 673, 57, 674, 675, 676, 677, 678, 679, 680, 681, 59, 594, 595, 596, 597, 598, 599, 600, 785, 786, 787, 788, 789, 790, 791, 792, 793, 794, 795, 860, 861, 862, 863, 864, 865, 866, 836, 837, 827, 828, 867, 868, 869, 870, 847, 848, 849, 850, 851, 852, 853, 854, 855, 856, 857, 858, 859, 840, 841, 842, 843, 844, 845, 846, 871, 872, 873, 874, 829, 830, 831] (by decide +kernel) (by decide +kernel)
set_option maxRecDepth 20000 in
theorem gL_law_X10_fewest : GoodIn wsL_law (wsV RL 119 RX10 yX10_fewest wsX10_fewest) := goodIn_app (goodIn_of _ (by decide +kernel)) ggL_law_X10_fewest
set_option maxRecDepth 20000 in
theorem ggL_law_X11_fewest : GoodIn wsL_law wsX11_fewest := goodIn_r _ [747, 151, 250, 251, 252, 5, 253, 223, 185, 186, 187, 201, 202, 203, 204, 184, 254, 255, 256, 257, 152, 153, 154, 155, 258, 259, 260, 686, 687, 688, 689, 143, 657, 658, 748, 749, 750, 751, 703, 156, 157, 158, 539, 540, 541, 542, 469, 420, 543, 544, 501, 421, 422, 423, 424, 425, 426, 427, 359, 360, 361, 362, 363, 364, 365, 366, 321, 322, 323, 324, 325, 326, 327, 328, 144, 145, 146, 147, 545, 546, 547, 548, 549, 550, 551, 552, 553, 554, 555, 556, 557, 558, 559, 560, 561, 148, 562, 563, 564, 616, 617, 618, 619, 796, 797, 798, 799, 800, 801, 802, 803, 804, 805, 806, 807, 808, 809, 810, 811, 812, 813, 814, 815, 816, 817, 818, 819, 820, 821, 822, 823, 824, 825, 826] (by decide +kernel) (by decide +kernel)
set_option maxRecDepth 20000 in
theorem gL_law_X11_fewest : GoodIn wsL_law (wsV RL 123 RX11 yX11_fewest wsX11_fewest) := goodIn_app (goodIn_of _ (by decide +kernel)) ggL_law_X11_fewest
set_option maxRecDepth 20000 in
theorem ggL_law_X10_comes : GoodIn wsL_law wsX10_comes := goodIn_r _ [755, 15, 229, 230, 231, 2, 232, 36, 169, 170, 171, 756, 757, 758, 29, 759, 74, 73, 390, 391, 392, 76, 393, 80, 81, 82, 83, 785, 786, 787, 788, 789, 790, 791, 792, 793, 794, 795, 836, 837, 867, 868, 869, 870] (by decide +kernel) (by decide +kernel)
set_option maxRecDepth 20000 in
theorem gL_law_X10_comes : GoodIn wsL_law (wsV RL 124 RX10 yX10_comes wsX10_comes) := goodIn_app (goodIn_of _ (by decide +kernel)) ggL_law_X10_comes
set_option maxRecDepth 20000 in
theorem ggL_law_X11_comes : GoodIn wsL_law wsX11_comes := goodIn_r _ [763, 250, 251, 252, 5, 253, 223, 185, 186, 187, 764, 765, 766, 767, 151, 258, 259, 260, 402, 403, 404, 405, 152, 153, 154, 155, 796, 797, 798, 799, 800, 801, 802, 803, 804, 805, 806, 807, 808, 809, 810, 811, 812, 813, 814, 815, 816, 817, 818, 819, 820, 821, 822, 823, 824, 825, 826] (by decide +kernel) (by decide +kernel)
set_option maxRecDepth 20000 in
theorem gL_law_X11_comes : GoodIn wsL_law (wsV RL 127 RX11 yX11_comes wsX11_comes) := goodIn_app (goodIn_of _ (by decide +kernel)) ggL_law_X11_comes
set_option maxRecDepth 20000 in
theorem ggL_law_X10_drop : GoodIn wsL_law wsX10_drop := goodIn_r _ [771, 15, 229, 230, 231, 2, 232, 36, 169, 170, 171, 756, 757, 758, 29, 759, 74, 73, 390, 391, 392, 76, 393, 80, 81, 82, 83, 785, 786, 787, 788, 789, 790, 791, 792, 793, 794, 795, 836, 837, 867, 868, 869, 870] (by decide +kernel) (by decide +kernel)
set_option maxRecDepth 20000 in
theorem gL_law_X10_drop : GoodIn wsL_law (wsV RL 128 RX10 yX10_drop wsX10_drop) := goodIn_app (goodIn_of _ (by decide +kernel)) ggL_law_X10_drop
set_option maxRecDepth 20000 in
theorem ggL_law_X11_drop : GoodIn wsL_law wsX11_drop := goodIn_r _ [775, 250, 251, 252, 5, 253, 223, 185, 186, 187, 764, 765, 766, 767, 151, 258, 259, 260, 402, 403, 404, 405, 152, 153, 154, 155, 796, 797, 798, 799, 800, 801, 802, 803, 804, 805, 806, 807, 808, 809, 810, 811, 812, 813, 814, 815, 816, 817, 818, 819, 820, 821, 822, 823, 824, 825, 826] (by decide +kernel) (by decide +kernel)
set_option maxRecDepth 20000 in
theorem gL_law_X11_drop : GoodIn wsL_law (wsV RL 131 RX11 yX11_drop wsX11_drop) := goodIn_app (goodIn_of _ (by decide +kernel)) ggL_law_X11_drop
set_option maxRecDepth 20000 in
theorem ggL_law_X10_count : GoodIn wsL_law wsX10_count := goodIn_r _ [779, 35, 36, 19, 694, 15, 228, 229, 230, 231, 2, 232, 169, 170, 171, 780, 347, 348, 29, 349, 74, 73, 350, 785, 786, 787, 788, 789, 790, 791, 792, 793, 794, 795, 827, 828, 836, 837, 867, 868, 869, 870] (by decide +kernel) (by decide +kernel)
set_option maxRecDepth 20000 in
theorem gL_law_X10_count : GoodIn wsL_law (wsV RL 132 RX10 yX10_count wsX10_count) := goodIn_app (goodIn_of _ (by decide +kernel)) ggL_law_X10_count
set_option maxRecDepth 20000 in
theorem ggL_law_X11_count : GoodIn wsL_law wsX11_count := goodIn_r _ [784, 184, 223, 703, 151, 250, 251, 252, 5, 253, 185, 186, 187, 363, 364, 365, 366, 154, 258, 259, 260, 796, 797, 798, 799, 800, 801, 802, 803, 804, 805, 806, 807, 808, 809, 810, 811, 812, 813, 814, 815, 816, 817, 818, 819, 820, 821, 822, 823, 824, 825, 826] (by decide +kernel) (by decide +kernel)
set_option maxRecDepth 20000 in
theorem gL_law_X11_count : GoodIn wsL_law (wsV RL 135 RX11 yX11_count wsX11_count) := goodIn_app (goodIn_of _ (by decide +kernel)) ggL_law_X11_count
