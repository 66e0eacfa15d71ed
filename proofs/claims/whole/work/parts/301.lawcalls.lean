set_option maxRecDepth 20000 in
theorem ggL_law_X3_init : GoodIn wsL_law wsX3_init := goodIn_r _ [8, 9, 10, 11, 12, 13, 14, 15, 16, 17, 18, 19, 20, 21, 22, 23, 24, 25, 26, 27, 28, 29, 30, 31, 32, 33, 34, 35, 36, 37, 38, 39, 40, 41, 42, 43, 44, 45, 46, 47, 48, 49, 50, 51, 52, 53, 54, 55, 56, 57, 58, 59, 60, 797, 798, 799, 800, 801, 802, 803, 804, 805, 806, 807, 808, 809, 810, 811, 812, 813, 836, 837, 838, 839, 840, 841, 842, 843, 844, 845, 846, 847, 848, 849] (by decide +kernel) (by decide +kernel)
set_option maxRecDepth 20000 in
theorem gL_law_X3_init : GoodIn wsL_law (wsX3_init) := ggL_law_X3_init
set_option maxRecDepth 20000 in
theorem ggL_law_X4_init : GoodIn wsL_law wsX4_init := goodIn_r _ [63, 64, 10, 11, 13, 65, 66, 67, 68, 17, 69, 70, 71, 72, 73, 74, 75, 76, 77, 78, 79, 80, 81, 82, 814, 815, 816, 817, 818, 819, 820, 821, 822, 823, 824, 825, 826, 827, 828, 829, 830, 831, 832, 833, 834, 835] (by decide +kernel) (by decide +kernel)
set_option maxRecDepth 20000 in
theorem gL_law_X4_init : GoodIn wsL_law (wsX4_init) := ggL_law_X4_init
set_option maxRecDepth 20000 in
theorem ggL_law_X3_row : GoodIn wsL_law wsX3_row := goodIn_r _ [86, 14, 15, 87, 88, 2, 89, 90, 91, 92, 93, 37, 38, 797, 798, 799, 800, 801, 802, 803, 804, 805, 806, 807, 808, 809, 810, 811, 812, 813] (by decide +kernel) (by decide +kernel)
set_option maxRecDepth 20000 in
theorem gL_law_X3_row : GoodIn wsL_law (wsV RL 13 RX3 yX3_row wsX3_row) := goodIn_app (goodIn_of _ (by decide +kernel)) ggL_law_X3_row
set_option maxRecDepth 20000 in
theorem ggL_law_X4_row : GoodIn wsL_law wsX4_row := goodIn_r _ [97, 98, 99, 5, 100, 101, 102, 103, 104, 105, 106, 107, 108, 79, 109, 110, 111, 112, 65, 66, 814, 815, 816, 817, 818, 819, 820, 821, 822, 823, 824, 825, 826, 827, 828, 829, 830, 831, 832, 833, 834, 835] (by decide +kernel) (by decide +kernel)
set_option maxRecDepth 20000 in
theorem gL_law_X4_row : GoodIn wsL_law (wsV RL 17 RX4 yX4_row wsX4_row) := goodIn_app (goodIn_of _ (by decide +kernel)) ggL_law_X4_row
set_option maxRecDepth 20000 in
theorem ggL_law_X3_lay : GoodIn wsL_law wsX3_lay := goodIn_r _ [116, 14, 34, 117, 118, 119, 2, 120, 15, 87, 88, 89, 90, 91, 92, 93, 37, 38, 797, 798, 799, 800, 801, 802, 803, 804, 805, 806, 807, 808, 809, 810, 811, 812, 813] (by decide +kernel) (by decide +kernel)
set_option maxRecDepth 20000 in
theorem gL_law_X3_lay : GoodIn wsL_law (wsV RL 18 RX3 yX3_lay wsX3_lay) := goodIn_app (goodIn_of _ (by decide +kernel)) ggL_law_X3_lay
set_option maxRecDepth 20000 in
theorem ggL_law_X4_lay : GoodIn wsL_law wsX4_lay := goodIn_r _ [124, 65, 66, 98, 99, 5, 100, 101, 102, 103, 104, 105, 106, 107, 108, 79, 125, 126, 127, 128, 129, 814, 815, 816, 817, 818, 819, 820, 821, 822, 823, 824, 825, 826, 827, 828, 829, 830, 831, 832, 833, 834, 835] (by decide +kernel) (by decide +kernel)
set_option maxRecDepth 20000 in
theorem gL_law_X4_lay : GoodIn wsL_law (wsV RL 22 RX4 yX4_lay wsX4_lay) := goodIn_app (goodIn_of _ (by decide +kernel)) ggL_law_X4_lay
set_option maxRecDepth 20000 in
theorem ggL_law_X3_at : GoodIn wsL_law wsX3_at := goodIn_r _ [133, 14, 34, 117, 118, 119, 2, 120, 15, 87, 88, 89, 90, 91, 92, 93, 37, 38, 797, 798, 799, 800, 801, 802, 803, 804, 805, 806, 807, 808, 809, 810, 811, 812, 813] (by decide +kernel) (by decide +kernel)
set_option maxRecDepth 20000 in
theorem gL_law_X3_at : GoodIn wsL_law (wsV RL 23 RX3 yX3_at wsX3_at) := goodIn_app (goodIn_of _ (by decide +kernel)) ggL_law_X3_at
set_option maxRecDepth 20000 in
theorem ggL_law_X4_at : GoodIn wsL_law wsX4_at := goodIn_r _ [137, 65, 66, 98, 99, 5, 100, 101, 102, 103, 104, 105, 106, 107, 108, 79, 125, 126, 127, 128, 129, 814, 815, 816, 817, 818, 819, 820, 821, 822, 823, 824, 825, 826, 827, 828, 829, 830, 831, 832, 833, 834, 835] (by decide +kernel) (by decide +kernel)
set_option maxRecDepth 20000 in
theorem gL_law_X4_at : GoodIn wsL_law (wsV RL 26 RX4 yX4_at wsX4_at) := goodIn_app (goodIn_of _ (by decide +kernel)) ggL_law_X4_at
set_option maxRecDepth 20000 in
theorem ggL_law_X3_tear : GoodIn wsL_law wsX3_tear := goodIn_r _ [141, 15, 87, 88, 2, 89, 90, 91, 92, 93, 37, 38, 797, 798, 799, 800, 801, 802, 803, 804, 805, 806, 807, 808, 809, 810, 811, 812, 813] (by decide +kernel) (by decide +kernel)
set_option maxRecDepth 20000 in
theorem gL_law_X3_tear : GoodIn wsL_law (wsV RL 27 RX3 yX3_tear wsX3_tear) := goodIn_app (goodIn_of _ (by decide +kernel)) ggL_law_X3_tear
set_option maxRecDepth 20000 in
theorem ggL_law_X4_tear : GoodIn wsL_law wsX4_tear := goodIn_r _ [145, 65, 98, 99, 5, 100, 101, 102, 103, 104, 105, 106, 107, 108, 79, 814, 815, 816, 817, 818, 819, 820, 821, 822, 823, 824, 825, 826, 827, 828, 829, 830, 831, 832, 833, 834, 835] (by decide +kernel) (by decide +kernel)
set_option maxRecDepth 20000 in
theorem gL_law_X4_tear : GoodIn wsL_law (wsV RL 31 RX4 yX4_tear wsX4_tear) := goodIn_app (goodIn_of _ (by decide +kernel)) ggL_law_X4_tear
set_option maxRecDepth 20000 in
theorem ggL_law_X3_copy : GoodIn wsL_law wsX3_copy := goodIn_r _ [149, 15, 14, 150, 151, 152, 153, 87, 88, 2, 89, 90, 91, 92, 93, 37, 38, 154, 155, 156, 797, 798, 799, 800, 801, 802, 803, 804, 805, 806, 807, 808, 809, 810, 811, 812, 813] (by decide +kernel) (by decide +kernel)
set_option maxRecDepth 20000 in
theorem gL_law_X3_copy : GoodIn wsL_law (wsV RL 32 RX3 yX3_copy wsX3_copy) := goodIn_app (goodIn_of _ (by decide +kernel)) ggL_law_X3_copy
set_option maxRecDepth 20000 in
theorem ggL_law_X4_copy : GoodIn wsL_law wsX4_copy := goodIn_r _ [160, 65, 67, 66, 98, 99, 5, 100, 101, 102, 103, 104, 105, 106, 107, 108, 79, 161, 162, 163, 164, 814, 815, 816, 817, 818, 819, 820, 821, 822, 823, 824, 825, 826, 827, 828, 829, 830, 831, 832, 833, 834, 835] (by decide +kernel) (by decide +kernel)
set_option maxRecDepth 20000 in
theorem gL_law_X4_copy : GoodIn wsL_law (wsV RL 36 RX4 yX4_copy wsX4_copy) := goodIn_app (goodIn_of _ (by decide +kernel)) ggL_law_X4_copy
set_option maxRecDepth 20000 in
theorem ggL_law_X3_mean : GoodIn wsL_law wsX3_mean := goodIn_r _ [168, 15, 14, 34, 87, 88, 2, 89, 90, 91, 92, 93, 37, 38, 797, 798, 799, 800, 801, 802, 803, 804, 805, 806, 807, 808, 809, 810, 811, 812, 813] (by decide +kernel) (by decide +kernel)
set_option maxRecDepth 20000 in
theorem gL_law_X3_mean : GoodIn wsL_law (wsV RL 37 RX3 yX3_mean wsX3_mean) := goodIn_app (goodIn_of _ (by decide +kernel)) ggL_law_X3_mean
set_option maxRecDepth 20000 in
theorem ggL_law_X4_mean : GoodIn wsL_law wsX4_mean := goodIn_r _ [172, 65, 66, 98, 99, 5, 100, 101, 102, 103, 104, 105, 106, 107, 108, 79, 125, 126, 127, 128, 129, 814, 815, 816, 817, 818, 819, 820, 821, 822, 823, 824, 825, 826, 827, 828, 829, 830, 831, 832, 833, 834, 835] (by decide +kernel) (by decide +kernel)
set_option maxRecDepth 20000 in
theorem gL_law_X4_mean : GoodIn wsL_law (wsV RL 40 RX4 yX4_mean wsX4_mean) := goodIn_app (goodIn_of _ (by decide +kernel)) ggL_law_X4_mean
set_option maxRecDepth 20000 in
theorem ggL_law_X3_text : GoodIn wsL_law wsX3_text := goodIn_r _ [176, 18, 19, 177, 178, 2, 179, 90, 91, 92, 93, 37, 38, 797, 798, 799, 800, 801, 802, 803, 804, 805, 806, 807, 808, 809, 810, 811, 812, 813] (by decide +kernel) (by decide +kernel)
set_option maxRecDepth 20000 in
theorem gL_law_X3_text : GoodIn wsL_law (wsV RL 41 RX3 yX3_text wsX3_text) := goodIn_app (goodIn_of _ (by decide +kernel)) ggL_law_X3_text
set_option maxRecDepth 20000 in
theorem ggL_law_X4_text : GoodIn wsL_law wsX4_text := goodIn_r _ [183, 68, 69, 184, 185, 5, 186, 101, 102, 103, 104, 105, 106, 107, 108, 79, 814, 815, 816, 817, 818, 819, 820, 821, 822, 823, 824, 825, 826, 827, 828, 829, 830, 831, 832, 833, 834, 835] (by decide +kernel) (by decide +kernel)
set_option maxRecDepth 20000 in
theorem gL_law_X4_text : GoodIn wsL_law (wsV RL 44 RX4 yX4_text wsX4_text) := goodIn_app (goodIn_of _ (by decide +kernel)) ggL_law_X4_text
set_option maxRecDepth 20000 in
theorem ggL_law_X3_put : GoodIn wsL_law wsX3_put := goodIn_r _ [190, 19, 18, 177, 178, 2, 179, 90, 91, 92, 93, 37, 38, 797, 798, 799, 800, 801, 802, 803, 804, 805, 806, 807, 808, 809, 810, 811, 812, 813] (by decide +kernel) (by decide +kernel)
set_option maxRecDepth 20000 in
theorem gL_law_X3_put : GoodIn wsL_law (wsV RL 45 RX3 yX3_put wsX3_put) := goodIn_app (goodIn_of _ (by decide +kernel)) ggL_law_X3_put
set_option maxRecDepth 20000 in
theorem ggL_law_X4_put : GoodIn wsL_law wsX4_put := goodIn_r _ [194, 68, 69, 184, 185, 5, 186, 101, 102, 103, 104, 105, 106, 107, 108, 79, 814, 815, 816, 817, 818, 819, 820, 821, 822, 823, 824, 825, 826, 827, 828, 829, 830, 831, 832, 833, 834, 835] (by decide +kernel) (by decide +kernel)
set_option maxRecDepth 20000 in
theorem gL_law_X4_put : GoodIn wsL_law (wsV RL 48 RX4 yX4_put wsX4_put) := goodIn_app (goodIn_of _ (by decide +kernel)) ggL_law_X4_put
set_option maxRecDepth 20000 in
theorem ggL_law_X3_fault : GoodIn wsL_law wsX3_fault := goodIn_r _ [198, 19, 30, 18, 177, 178, 2, 179, 90, 91, 92, 93, 37, 38, 199, 200, 201, 22, 202, 46, 47, 48, 49, 50, 203, 204, 205, 206, 45, 207, 208, 209, 210, 211, 212, 213, 214, 215, 216, 52, 217, 218, 219, 797, 798, 799, 800, 801, 802, 803, 804, 805, 806, 807, 808, 809, 810, 811, 812, 813, 836, 837, 838, 839, 840, 841, 844, 845, 846, 847, 848, 849] (by decide +kernel) (by decide +kernel)
set_option maxRecDepth 20000 in
theorem gL_law_X3_fault : GoodIn wsL_law (wsV RL 49 RX3 yX3_fault wsX3_fault) := goodIn_app (goodIn_of _ (by decide +kernel)) ggL_law_X3_fault
set_option maxRecDepth 20000 in
theorem ggL_law_X4_fault : GoodIn wsL_law wsX4_fault := goodIn_r _ [223, 68, 184, 185, 5, 186, 101, 102, 103, 104, 105, 106, 107, 108, 79, 224, 225, 226, 227, 71, 228, 229, 230, 231, 232, 233, 234, 235, 69, 236, 237, 238, 814, 815, 816, 817, 818, 819, 820, 821, 822, 823, 824, 825, 826, 827, 828, 829, 830, 831, 832, 833, 834, 835] (by decide +kernel) (by decide +kernel)
set_option maxRecDepth 20000 in
theorem gL_law_X4_fault : GoodIn wsL_law (wsV RL 52 RX4 yX4_fault wsX4_fault) := goodIn_app (goodIn_of _ (by decide +kernel)) ggL_law_X4_fault
set_option maxRecDepth 20000 in
theorem ggL_law_X3_air : GoodIn wsL_law wsX3_air := goodIn_r _ [242, 19, 30, 18, 23, 24, 28, 39, 29, 243, 177, 178, 2, 179, 90, 91, 92, 93, 37, 38, 199, 200, 201, 22, 202, 46, 47, 48, 49, 50, 203, 204, 205, 206, 45, 207, 208, 209, 210, 211, 212, 213, 214, 215, 216, 52, 217, 218, 219, 244, 245, 246, 247, 248, 249, 250, 251, 252, 253, 254, 255, 797, 798, 799, 800, 801, 802, 803, 804, 805, 806, 807, 808, 809, 810, 811, 812, 813, 842, 843, 836, 837, 838, 839, 840, 841, 844, 845, 846, 847, 848, 849] (by decide +kernel) (by decide +kernel)
set_option maxRecDepth 20000 in
theorem gL_law_X3_air : GoodIn wsL_law (wsV RL 53 RX3 yX3_air wsX3_air) := goodIn_app (goodIn_of _ (by decide +kernel)) ggL_law_X3_air
