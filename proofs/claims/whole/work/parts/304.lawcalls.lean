set_option maxRecDepth 20000 in
theorem ggL_law_X4_odds : GoodIn wsL_law wsX4_odds := goodIn_r _ [679, 70, 101, 102, 5, 103, 680, 681, 682, 683, 684, 72, 518, 519, 520, 301, 302, 303, 412, 413, 414, 415, 416, 417, 295, 296, 297, 298, 299, 300, 418, 419, 420, 421, 422, 423, 345, 346, 347, 348, 349, 350, 351, 352, 353, 538, 539, 540, 685, 686, 687, 688, 689, 78, 814, 815, 816, 817, 818, 819, 820, 821, 822, 823, 824, 825, 826, 827, 828, 829, 830, 831, 832, 833, 834, 835] (by decide +kernel) (by decide +kernel)
set_option maxRecDepth 20000 in
theorem gL_law_X4_odds : GoodIn wsL_law (wsV RL 141 RX4 yX4_odds wsX4_odds) := goodIn_app (goodIn_of _ (by decide +kernel)) ggL_law_X4_odds
set_option maxRecDepth 20000 in
theorem ggL_law_X3_mid : GoodIn wsL_law wsX3_mid := goodIn_r _ [693, 664, 665, 666, 2, 667, 24, 243, 30, 573, 574, 575, 22, 576, 46, 668, 669, 670, 671, 504, 505, 506, 507, 508, 244, 245, 246, 247, 47, 48, 49, 50, 45, 248, 249, 250, 52, 251, 252, 253, 254, 255, 219, 218, 509, 510, 511, 512, 210, 513, 379, 380, 381, 382, 383, 384, 385, 386, 387, 276, 277, 278, 279, 280, 281, 282, 388, 389, 390, 391, 392, 393, 394, 395, 396, 397, 398, 399, 400, 401, 402, 403, 215, 216, 217, 314, 315, 316, 317, 318, 319, 320, 321, 322, 323, 324, 325, 326, 327, 328, 329, 330, 331, 332, 672, 673, 674, 675, 35, 36, 797, 798, 799, 800, 801, 802, 803, 804, 805, 806, 807, 808, 809, 810, 811, 812, 813, 836, 837, 838, 839, 840, 841, 844, 845, 846, 847, 848, 849] (by decide +kernel) (by decide +kernel)
set_option maxRecDepth 20000 in
theorem gL_law_X3_mid : GoodIn wsL_law (wsV RL 142 RX3 yX3_mid wsX3_mid) := goodIn_app (goodIn_of _ (by decide +kernel)) ggL_law_X3_mid
set_option maxRecDepth 20000 in
theorem ggL_law_X4_mid : GoodIn wsL_law wsX4_mid := goodIn_r _ [697, 70, 101, 102, 5, 103, 680, 681, 682, 683, 684, 72, 518, 519, 520, 301, 302, 303, 412, 413, 414, 415, 416, 417, 295, 296, 297, 298, 299, 300, 418, 419, 420, 421, 422, 423, 345, 346, 347, 348, 349, 350, 351, 352, 353, 538, 539, 540, 685, 686, 687, 688, 689, 78, 814, 815, 816, 817, 818, 819, 820, 821, 822, 823, 824, 825, 826, 827, 828, 829, 830, 831, 832, 833, 834, 835] (by decide +kernel) (by decide +kernel)
set_option maxRecDepth 20000 in
theorem gL_law_X4_mid : GoodIn wsL_law (wsV RL 145 RX4 yX4_mid wsX4_mid) := goodIn_app (goodIn_of _ (by decide +kernel)) ggL_law_X4_mid
set_option maxRecDepth 20000 in
theorem ggL_law_X3_lots : GoodIn wsL_law wsX3_lots := goodIn_r _ [701, 702, 24, 243, 28, 703, 508, 358, 359, 360, 27, 361, 60, 704, 705, 706, 2, 707, 265, 428, 308, 362, 363, 364, 365, 366, 367, 368, 369, 370, 371, 372, 59, 373, 374, 375, 22, 376, 45, 210, 208, 377, 268, 269, 270, 46, 378, 379, 380, 381, 382, 48, 47, 49, 50, 383, 384, 385, 386, 387, 276, 277, 52, 278, 255, 219, 279, 280, 281, 282, 252, 388, 389, 390, 391, 392, 393, 394, 395, 396, 397, 398, 218, 399, 400, 401, 402, 403, 215, 216, 217, 314, 315, 316, 317, 253, 254, 318, 319, 320, 321, 322, 323, 324, 325, 326, 327, 328, 329, 330, 331, 332, 214, 797, 798, 799, 800, 801, 802, 803, 804, 805, 806, 807, 808, 809, 810, 811, 812, 813, 836, 837, 838, 839, 840, 841, 842, 843, 844, 845, 846, 847, 848, 849] (by decide +kernel) (by decide +kernel)
set_option maxRecDepth 20000 in
theorem gL_law_X3_lots : GoodIn wsL_law (wsV RL 146 RX3 yX3_lots wsX3_lots) := goodIn_app (goodIn_of _ (by decide +kernel)) ggL_law_X3_lots
set_option maxRecDepth 20000 in
theorem ggL_law_X4_lots : GoodIn wsL_law wsX4_lots := goodIn_r _ [711, 712, 70, 260, 713, 714, 715, 101, 102, 5, 103, 408, 409, 410, 411, 74, 441, 442, 443, 412, 413, 414, 415, 416, 417, 295, 296, 297, 298, 299, 300, 301, 302, 303, 418, 419, 420, 421, 422, 423, 345, 346, 347, 348, 349, 350, 351, 352, 353, 814, 815, 816, 817, 818, 819, 820, 821, 822, 823, 824, 825, 826, 827, 828, 829, 830, 831, 832, 833, 834, 835] (by decide +kernel) (by decide +kernel)
set_option maxRecDepth 20000 in
theorem gL_law_X4_lots : GoodIn wsL_law (wsV RL 149 RX4 yX4_lots wsX4_lots) := goodIn_app (goodIn_of _ (by decide +kernel)) ggL_law_X4_lots
set_option maxRecDepth 20000 in
theorem ggL_law_X3_asked : GoodIn wsL_law wsX3_asked := goodIn_r _ [719, 34, 797, 798, 799, 800, 801, 802, 803, 804, 805, 806, 807, 808, 809, 810, 811, 812, 813] (by decide +kernel) (by decide +kernel)
set_option maxRecDepth 20000 in
theorem gL_law_X3_asked : GoodIn wsL_law (wsV RL 150 RX3 yX3_asked wsX3_asked) := goodIn_app (goodIn_of _ (by decide +kernel)) ggL_law_X3_asked
set_option maxRecDepth 20000 in
theorem ggL_law_X4_asked : GoodIn wsL_law wsX4_asked := goodIn_r _ [723, 129, 814, 815, 816, 817, 818, 819, 820, 821, 822, 823, 824, 825, 826, 827, 828, 829, 830, 831, 832, 833, 834, 835] (by decide +kernel) (by decide +kernel)
set_option maxRecDepth 20000 in
theorem gL_law_X4_asked : GoodIn wsL_law (wsV RL 153 RX4 yX4_asked wsX4_asked) := goodIn_app (goodIn_of _ (by decide +kernel)) ggL_law_X4_asked
set_option maxRecDepth 20000 in
theorem ggL_law_X3_upper : GoodIn wsL_law wsX3_upper := goodIn_r _ [727, 35, 797, 798, 799, 800, 801, 802, 803, 804, 805, 806, 807, 808, 809, 810, 811, 812, 813] (by decide +kernel) (by decide +kernel)
set_option maxRecDepth 20000 in
theorem gL_law_X3_upper : GoodIn wsL_law (wsV RL 154 RX3 yX3_upper wsX3_upper) := goodIn_app (goodIn_of _ (by decide +kernel)) ggL_law_X3_upper
set_option maxRecDepth 20000 in
theorem ggL_law_X4_upper : GoodIn wsL_law wsX4_upper := goodIn_r _ [731, 689, 814, 815, 816, 817, 818, 819, 820, 821, 822, 823, 824, 825, 826, 827, 828, 829, 830, 831, 832, 833, 834, 835] (by decide +kernel) (by decide +kernel)
set_option maxRecDepth 20000 in
theorem gL_law_X4_upper : GoodIn wsL_law (wsV RL 158 RX4 yX4_upper wsX4_upper) := goodIn_app (goodIn_of _ (by decide +kernel)) ggL_law_X4_upper
set_option maxRecDepth 20000 in
theorem ggL_law_X3_lower : GoodIn wsL_law wsX3_lower := goodIn_r _ [735, 36, 797, 798, 799, 800, 801, 802, 803, 804, 805, 806, 807, 808, 809, 810, 811, 812, 813] (by decide +kernel) (by decide +kernel)
set_option maxRecDepth 20000 in
theorem gL_law_X3_lower : GoodIn wsL_law (wsV RL 159 RX3 yX3_lower wsX3_lower) := goodIn_app (goodIn_of _ (by decide +kernel)) ggL_law_X3_lower
set_option maxRecDepth 20000 in
theorem ggL_law_X4_lower : GoodIn wsL_law wsX4_lower := goodIn_r _ [739, 78, 814, 815, 816, 817, 818, 819, 820, 821, 822, 823, 824, 825, 826, 827, 828, 829, 830, 831, 832, 833, 834, 835] (by decide +kernel) (by decide +kernel)
set_option maxRecDepth 20000 in
theorem gL_law_X4_lower : GoodIn wsL_law (wsV RL 162 RX4 yX4_lower wsX4_lower) := goodIn_app (goodIn_of _ (by decide +kernel)) ggL_law_X4_lower
set_option maxRecDepth 20000 in
theorem ggL_law_X3_count : GoodIn wsL_law wsX3_count := goodIn_r _ [743, 744, 745, 746, 2, 747, 24, 243, 308, 28, 39, 508, 525, 266, 15, 19, 509, 510, 511, 22, 512, 46, 45, 210, 748, 749, 750, 751, 752, 753, 754, 29, 755, 756, 757, 758, 759, 280, 281, 52, 282, 252, 797, 798, 799, 800, 801, 802, 803, 804, 805, 806, 807, 808, 809, 810, 811, 812, 813, 836, 837, 838, 839, 840, 841, 842, 843, 844, 845, 846, 847, 848, 849] (by decide +kernel) (by decide +kernel)
set_option maxRecDepth 20000 in
theorem gL_law_X3_count : GoodIn wsL_law (wsV RL 163 RX3 yX3_count wsX3_count) := goodIn_app (goodIn_of _ (by decide +kernel)) ggL_law_X3_count
set_option maxRecDepth 20000 in
theorem ggL_law_X4_count : GoodIn wsL_law wsX4_count := goodIn_r _ [763, 70, 260, 65, 68, 77, 538, 539, 5, 540, 764, 765, 766, 767, 298, 299, 300, 814, 815, 816, 817, 818, 819, 820, 821, 822, 823, 824, 825, 826, 827, 828, 829, 830, 831, 832, 833, 834, 835] (by decide +kernel) (by decide +kernel)
set_option maxRecDepth 20000 in
theorem gL_law_X4_count : GoodIn wsL_law (wsV RL 166 RX4 yX4_count wsX4_count) := goodIn_app (goodIn_of _ (by decide +kernel)) ggL_law_X4_count
set_option maxRecDepth 20000 in
theorem ggL_law_X3_finding : GoodIn wsL_law wsX3_finding := goodIn_r _ [771, 37, 797, 798, 799, 800, 801, 802, 803, 804, 805, 806, 807, 808, 809, 810, 811, 812, 813] (by decide +kernel) (by decide +kernel)
set_option maxRecDepth 20000 in
theorem gL_law_X3_finding : GoodIn wsL_law (wsV RL 167 RX3 yX3_finding wsX3_finding) := goodIn_app (goodIn_of _ (by decide +kernel)) ggL_law_X3_finding
set_option maxRecDepth 20000 in
theorem ggL_law_X4_finding : GoodIn wsL_law wsX4_finding := goodIn_r _ [775, 108, 814, 815, 816, 817, 818, 819, 820, 821, 822, 823, 824, 825, 826, 827, 828, 829, 830, 831, 832, 833, 834, 835] (by decide +kernel) (by decide +kernel)
set_option maxRecDepth 20000 in
theorem gL_law_X4_finding : GoodIn wsL_law (wsV RL 170 RX4 yX4_finding wsX4_finding) := goodIn_app (goodIn_of _ (by decide +kernel)) ggL_law_X4_finding
set_option maxRecDepth 20000 in
theorem ggL_law_X3_findings : GoodIn wsL_law wsX3_findings := goodIn_r _ [779, 38, 797, 798, 799, 800, 801, 802, 803, 804, 805, 806, 807, 808, 809, 810, 811, 812, 813] (by decide +kernel) (by decide +kernel)
set_option maxRecDepth 20000 in
theorem gL_law_X3_findings : GoodIn wsL_law (wsV RL 171 RX3 yX3_findings wsX3_findings) := goodIn_app (goodIn_of _ (by decide +kernel)) ggL_law_X3_findings
set_option maxRecDepth 20000 in
theorem ggL_law_X4_findings : GoodIn wsL_law wsX4_findings := goodIn_r _ [783, 79, 101, 102, 5, 103, 814, 815, 816, 817, 818, 819, 820, 821, 822, 823, 824, 825, 826, 827, 828, 829, 830, 831, 832, 833, 834, 835] (by decide +kernel) (by decide +kernel)
set_option maxRecDepth 20000 in
theorem gL_law_X4_findings : GoodIn wsL_law (wsV RL 174 RX4 yX4_findings wsX4_findings) := goodIn_app (goodIn_of _ (by decide +kernel)) ggL_law_X4_findings
set_option maxRecDepth 20000 in
theorem ggL_law_X3_digest : GoodIn wsL_law wsX3_digest := goodIn_r _ [787, 788, 789, 24, 243, 265, 266, 29, 39, 15, 14, 19, 18, 744, 745, 746, 2, 747, 308, 28, 508, 525, 509, 510, 511, 22, 512, 46, 45, 210, 748, 749, 750, 751, 752, 753, 754, 755, 756, 757, 758, 759, 280, 281, 52, 282, 252, 271, 272, 273, 274, 253, 254, 255, 219, 218, 275, 276, 277, 278, 279, 797, 798, 799, 800, 801, 802, 803, 804, 805, 806, 807, 808, 809, 810, 811, 812, 813, 836, 837, 838, 839, 840, 841, 842, 843, 844, 845, 846, 847, 848, 849] (by decide +kernel) (by decide +kernel)
set_option maxRecDepth 20000 in
theorem gL_law_X3_digest : GoodIn wsL_law (wsV RL 175 RX3 yX3_digest wsX3_digest) := goodIn_app (goodIn_of _ (by decide +kernel)) ggL_law_X3_digest
set_option maxRecDepth 20000 in
theorem ggL_law_X4_digest : GoodIn wsL_law wsX4_digest := goodIn_r _ [793, 794, 795, 70, 77, 65, 66, 68, 69, 796, 761, 762, 5, 763, 260, 538, 539, 540, 764, 765, 766, 767, 298, 299, 300, 291, 292, 293, 294, 295, 296, 297, 301, 302, 303, 814, 815, 816, 817, 818, 819, 820, 821, 822, 823, 824, 825, 826, 827, 828, 829, 830, 831, 832, 833, 834, 835] (by decide +kernel) (by decide +kernel)
set_option maxRecDepth 20000 in
theorem gL_law_X4_digest : GoodIn wsL_law (wsV RL 178 RX4 yX4_digest wsX4_digest) := goodIn_app (goodIn_of _ (by decide +kernel)) ggL_law_X4_digest
