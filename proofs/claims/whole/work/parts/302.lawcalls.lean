set_option maxRecDepth 20000 in
theorem ggL_law_X4_air : GoodIn wsL_law wsX4_air := goodIn_r _ [259, 68, 70, 71, 260, 77, 184, 185, 5, 186, 101, 102, 103, 104, 105, 106, 107, 108, 79, 224, 225, 226, 227, 228, 229, 230, 231, 232, 233, 234, 235, 69, 236, 237, 238, 814, 815, 816, 817, 818, 819, 820, 821, 822, 823, 824, 825, 826, 827, 828, 829, 830, 831, 832, 833, 834, 835] (by decide +kernel) (by decide +kernel)
set_option maxRecDepth 20000 in
theorem gL_law_X4_air : GoodIn wsL_law (wsV RL 56 RX4 yX4_air wsX4_air) := goodIn_app (goodIn_of _ (by decide +kernel)) ggL_law_X4_air
set_option maxRecDepth 20000 in
theorem ggL_law_X3_station : GoodIn wsL_law wsX3_station := goodIn_r _ [264, 24, 265, 266, 34, 267, 268, 269, 22, 270, 46, 271, 272, 273, 52, 274, 252, 253, 254, 255, 219, 218, 275, 276, 277, 278, 279, 280, 281, 282, 797, 798, 799, 800, 801, 802, 803, 804, 805, 806, 807, 808, 809, 810, 811, 812, 813, 836, 837, 838, 839, 840, 841, 844, 845, 846, 847, 848, 849] (by decide +kernel) (by decide +kernel)
set_option maxRecDepth 20000 in
theorem gL_law_X3_station : GoodIn wsL_law (wsV RL 57 RX3 yX3_station wsX3_station) := goodIn_app (goodIn_of _ (by decide +kernel)) ggL_law_X3_station
set_option maxRecDepth 20000 in
theorem ggL_law_X4_station : GoodIn wsL_law wsX4_station := goodIn_r _ [286, 287, 288, 289, 5, 290, 70, 101, 102, 103, 291, 292, 293, 294, 295, 296, 297, 298, 299, 300, 301, 302, 303, 125, 126, 127, 128, 129, 814, 815, 816, 817, 818, 819, 820, 821, 822, 823, 824, 825, 826, 827, 828, 829, 830, 831, 832, 833, 834, 835] (by decide +kernel) (by decide +kernel)
set_option maxRecDepth 20000 in
theorem gL_law_X4_station : GoodIn wsL_law (wsV RL 60 RX4 yX4_station wsX4_station) := goodIn_app (goodIn_of _ (by decide +kernel)) ggL_law_X4_station
set_option maxRecDepth 20000 in
theorem ggL_law_X3_mark : GoodIn wsL_law wsX3_mark := goodIn_r _ [307, 24, 265, 308, 266, 267, 268, 269, 22, 270, 46, 309, 280, 281, 52, 282, 252, 90, 91, 92, 2, 93, 37, 38, 310, 311, 312, 313, 218, 314, 315, 316, 317, 253, 254, 318, 319, 320, 321, 322, 323, 324, 325, 326, 327, 328, 329, 330, 331, 332, 333, 334, 335, 336, 255, 219, 279, 797, 798, 799, 800, 801, 802, 803, 804, 805, 806, 807, 808, 809, 810, 811, 812, 813, 836, 837, 838, 839, 840, 841, 844, 845, 846, 847, 848, 849] (by decide +kernel) (by decide +kernel)
set_option maxRecDepth 20000 in
theorem gL_law_X3_mark : GoodIn wsL_law (wsV RL 61 RX3 yX3_mark wsX3_mark) := goodIn_app (goodIn_of _ (by decide +kernel)) ggL_law_X3_mark
set_option maxRecDepth 20000 in
theorem ggL_law_X4_mark : GoodIn wsL_law wsX4_mark := goodIn_r _ [340, 70, 287, 288, 289, 5, 290, 101, 102, 103, 298, 299, 300, 104, 105, 106, 107, 108, 79, 341, 342, 343, 344, 345, 346, 347, 348, 349, 350, 351, 352, 353, 814, 815, 816, 817, 818, 819, 820, 821, 822, 823, 824, 825, 826, 827, 828, 829, 830, 831, 832, 833, 834, 835] (by decide +kernel) (by decide +kernel)
set_option maxRecDepth 20000 in
theorem gL_law_X4_mark : GoodIn wsL_law (wsV RL 64 RX4 yX4_mark wsX4_mark) := goodIn_app (goodIn_of _ (by decide +kernel)) ggL_law_X4_mark
set_option maxRecDepth 20000 in
theorem ggL_law_X3_slot : GoodIn wsL_law wsX3_slot := goodIn_r _ [357, 24, 243, 308, 28, 358, 359, 360, 27, 361, 60, 362, 363, 2, 364, 365, 366, 367, 368, 369, 370, 371, 372, 59, 373, 374, 375, 22, 376, 45, 210, 208, 377, 268, 269, 270, 46, 378, 379, 380, 381, 382, 48, 47, 49, 50, 383, 384, 385, 386, 387, 276, 277, 52, 278, 255, 219, 279, 280, 281, 282, 252, 388, 389, 390, 391, 392, 393, 394, 395, 396, 397, 398, 218, 399, 400, 401, 402, 403, 215, 216, 217, 314, 315, 316, 317, 253, 254, 318, 319, 320, 321, 322, 323, 324, 325, 326, 327, 328, 329, 330, 331, 332, 214, 797, 798, 799, 800, 801, 802, 803, 804, 805, 806, 807, 808, 809, 810, 811, 812, 813, 836, 837, 838, 839, 840, 841, 842, 843, 844, 845, 846, 847, 848, 849] (by decide +kernel) (by decide +kernel)
set_option maxRecDepth 20000 in
theorem gL_law_X3_slot : GoodIn wsL_law (wsV RL 65 RX3 yX3_slot wsX3_slot) := goodIn_app (goodIn_of _ (by decide +kernel)) ggL_law_X3_slot
set_option maxRecDepth 20000 in
theorem ggL_law_X4_slot : GoodIn wsL_law wsX4_slot := goodIn_r _ [407, 70, 260, 408, 409, 410, 5, 411, 74, 412, 413, 414, 415, 416, 417, 295, 296, 297, 298, 299, 300, 301, 302, 303, 418, 419, 420, 421, 422, 423, 345, 346, 347, 348, 349, 350, 351, 352, 353, 814, 815, 816, 817, 818, 819, 820, 821, 822, 823, 824, 825, 826, 827, 828, 829, 830, 831, 832, 833, 834, 835] (by decide +kernel) (by decide +kernel)
set_option maxRecDepth 20000 in
theorem gL_law_X4_slot : GoodIn wsL_law (wsV RL 69 RX4 yX4_slot wsX4_slot) := goodIn_app (goodIn_of _ (by decide +kernel)) ggL_law_X4_slot
set_option maxRecDepth 20000 in
theorem ggL_law_X3_give : GoodIn wsL_law wsX3_give := goodIn_r _ [427, 24, 265, 428, 28, 267, 268, 269, 22, 270, 46, 358, 359, 360, 27, 361, 60, 362, 363, 2, 364, 365, 366, 367, 368, 369, 370, 371, 372, 59, 373, 374, 375, 376, 45, 210, 208, 377, 378, 379, 380, 381, 382, 48, 47, 49, 50, 383, 384, 385, 386, 387, 276, 277, 52, 278, 255, 219, 279, 280, 281, 282, 252, 388, 389, 390, 391, 392, 393, 394, 395, 396, 397, 398, 218, 399, 400, 401, 402, 403, 215, 216, 217, 314, 315, 316, 317, 253, 254, 318, 319, 320, 321, 322, 323, 324, 325, 326, 327, 328, 329, 330, 331, 332, 214, 797, 798, 799, 800, 801, 802, 803, 804, 805, 806, 807, 808, 809, 810, 811, 812, 813, 836, 837, 838, 839, 840, 841, 844, 845, 846, 847, 848, 849, 842, 843] (by decide +kernel) (by decide +kernel)
set_option maxRecDepth 20000 in
theorem gL_law_X3_give : GoodIn wsL_law (wsV RL 70 RX3 yX3_give wsX3_give) := goodIn_app (goodIn_of _ (by decide +kernel)) ggL_law_X3_give
set_option maxRecDepth 20000 in
theorem ggL_law_X4_give : GoodIn wsL_law wsX4_give := goodIn_r _ [432, 70, 260, 287, 288, 289, 5, 290, 101, 102, 103, 408, 409, 410, 411, 74, 814, 815, 816, 817, 818, 819, 820, 821, 822, 823, 824, 825, 826, 827, 828, 829, 830, 831, 832, 833, 834, 835] (by decide +kernel) (by decide +kernel)
set_option maxRecDepth 20000 in
theorem gL_law_X4_give : GoodIn wsL_law (wsV RL 73 RX4 yX4_give wsX4_give) := goodIn_app (goodIn_of _ (by decide +kernel)) ggL_law_X4_give
set_option maxRecDepth 20000 in
theorem ggL_law_X3_drop : GoodIn wsL_law wsX3_drop := goodIn_r _ [436, 24, 265, 428, 28, 267, 268, 269, 22, 270, 46, 358, 359, 360, 27, 361, 60, 362, 363, 2, 364, 365, 366, 367, 368, 369, 370, 371, 372, 59, 373, 374, 375, 376, 45, 210, 208, 377, 378, 379, 380, 381, 382, 48, 47, 49, 50, 383, 384, 385, 386, 387, 276, 277, 52, 278, 255, 219, 279, 280, 281, 282, 252, 388, 389, 390, 391, 392, 393, 394, 395, 396, 397, 398, 218, 399, 400, 401, 402, 403, 215, 216, 217, 314, 315, 316, 317, 253, 254, 318, 319, 320, 321, 322, 323, 324, 325, 326, 327, 328, 329, 330, 331, 332, 214, 797, 798, 799, 800, 801, 802, 803, 804, 805, 806, 807, 808, 809, 810, 811, 812, 813, 836, 837, 838, 839, 840, 841, 844, 845, 846, 847, 848, 849, 842, 843] (by decide +kernel) (by decide +kernel)
set_option maxRecDepth 20000 in
theorem gL_law_X3_drop : GoodIn wsL_law (wsV RL 74 RX3 yX3_drop wsX3_drop) := goodIn_app (goodIn_of _ (by decide +kernel)) ggL_law_X3_drop
set_option maxRecDepth 20000 in
theorem ggL_law_X4_drop : GoodIn wsL_law wsX4_drop := goodIn_r _ [440, 70, 260, 287, 288, 289, 5, 290, 101, 102, 103, 408, 409, 410, 411, 74, 441, 442, 443, 814, 815, 816, 817, 818, 819, 820, 821, 822, 823, 824, 825, 826, 827, 828, 829, 830, 831, 832, 833, 834, 835] (by decide +kernel) (by decide +kernel)
set_option maxRecDepth 20000 in
theorem gL_law_X4_drop : GoodIn wsL_law (wsV RL 77 RX4 yX4_drop wsX4_drop) := goodIn_app (goodIn_of _ (by decide +kernel)) ggL_law_X4_drop
set_option maxRecDepth 20000 in
theorem ggL_law_X3_first : GoodIn wsL_law wsX3_first := goodIn_r _ [447, 24, 265, 448, 28, 267, 268, 269, 22, 270, 46, 358, 359, 360, 27, 361, 60, 362, 363, 2, 364, 365, 366, 367, 368, 369, 370, 371, 372, 59, 373, 374, 375, 376, 45, 210, 208, 377, 378, 379, 380, 381, 382, 48, 47, 49, 50, 383, 384, 385, 386, 387, 276, 277, 52, 278, 255, 219, 279, 280, 281, 282, 252, 388, 389, 390, 391, 392, 393, 394, 395, 396, 397, 398, 218, 399, 400, 401, 402, 403, 215, 216, 217, 314, 315, 316, 317, 253, 254, 318, 319, 320, 321, 322, 323, 324, 325, 326, 327, 328, 329, 330, 331, 332, 214, 797, 798, 799, 800, 801, 802, 803, 804, 805, 806, 807, 808, 809, 810, 811, 812, 813, 836, 837, 838, 839, 840, 841, 844, 845, 846, 847, 848, 849, 842, 843] (by decide +kernel) (by decide +kernel)
set_option maxRecDepth 20000 in
theorem gL_law_X3_first : GoodIn wsL_law (wsV RL 78 RX3 yX3_first wsX3_first) := goodIn_app (goodIn_of _ (by decide +kernel)) ggL_law_X3_first
set_option maxRecDepth 20000 in
theorem ggL_law_X4_first : GoodIn wsL_law wsX4_first := goodIn_r _ [452, 70, 260, 287, 288, 289, 5, 290, 101, 102, 103, 408, 409, 410, 411, 74, 814, 815, 816, 817, 818, 819, 820, 821, 822, 823, 824, 825, 826, 827, 828, 829, 830, 831, 832, 833, 834, 835] (by decide +kernel) (by decide +kernel)
set_option maxRecDepth 20000 in
theorem gL_law_X4_first : GoodIn wsL_law (wsV RL 81 RX4 yX4_first wsX4_first) := goodIn_app (goodIn_of _ (by decide +kernel)) ggL_law_X4_first
set_option maxRecDepth 20000 in
theorem ggL_law_X3_undo : GoodIn wsL_law wsX3_undo := goodIn_r _ [456, 28, 39, 457, 458, 459, 2, 460, 24, 23, 461, 244, 245, 246, 22, 247, 46, 47, 48, 49, 50, 45, 248, 249, 250, 52, 251, 252, 253, 254, 255, 219, 218, 373, 374, 375, 376, 210, 208, 377, 268, 269, 270, 378, 379, 380, 381, 382, 383, 384, 385, 386, 387, 276, 277, 278, 279, 280, 281, 282, 388, 389, 390, 391, 392, 393, 394, 395, 396, 397, 398, 399, 400, 401, 402, 403, 215, 216, 217, 314, 315, 316, 317, 318, 319, 320, 321, 322, 323, 324, 325, 326, 327, 328, 329, 330, 331, 332, 214, 797, 798, 799, 800, 801, 802, 803, 804, 805, 806, 807, 808, 809, 810, 811, 812, 813, 842, 843, 836, 837, 838, 839, 840, 841, 844, 845, 846, 847, 848, 849] (by decide +kernel) (by decide +kernel)
set_option maxRecDepth 20000 in
theorem gL_law_X3_undo : GoodIn wsL_law (wsV RL 82 RX3 yX3_undo wsX3_undo) := goodIn_app (goodIn_of _ (by decide +kernel)) ggL_law_X3_undo
set_option maxRecDepth 20000 in
theorem ggL_law_X4_undo : GoodIn wsL_law wsX4_undo := goodIn_r _ [465, 260, 70, 74, 101, 102, 5, 103, 814, 815, 816, 817, 818, 819, 820, 821, 822, 823, 824, 825, 826, 827, 828, 829, 830, 831, 832, 833, 834, 835] (by decide +kernel) (by decide +kernel)
set_option maxRecDepth 20000 in
theorem gL_law_X4_undo : GoodIn wsL_law (wsV RL 85 RX4 yX4_undo wsX4_undo) := goodIn_app (goodIn_of _ (by decide +kernel)) ggL_law_X4_undo
set_option maxRecDepth 20000 in
theorem ggL_law_X3_keep : GoodIn wsL_law wsX3_keep := goodIn_r _ [469, 24, 243, 29, 28, 39, 470, 471, 2, 472, 473, 474, 475, 27, 476, 59, 477, 151, 152, 153, 60, 797, 798, 799, 800, 801, 802, 803, 804, 805, 806, 807, 808, 809, 810, 811, 812, 813, 836, 837, 838, 839, 840, 841, 842, 843] (by decide +kernel) (by decide +kernel)
set_option maxRecDepth 20000 in
theorem gL_law_X3_keep : GoodIn wsL_law (wsV RL 86 RX3 yX3_keep wsX3_keep) := goodIn_app (goodIn_of _ (by decide +kernel)) ggL_law_X3_keep
set_option maxRecDepth 20000 in
theorem ggL_law_X4_keep : GoodIn wsL_law wsX4_keep := goodIn_r _ [481, 70, 75, 74, 76, 77, 260, 101, 102, 5, 103, 814, 815, 816, 817, 818, 819, 820, 821, 822, 823, 824, 825, 826, 827, 828, 829, 830, 831, 832, 833, 834, 835] (by decide +kernel) (by decide +kernel)
set_option maxRecDepth 20000 in
theorem gL_law_X4_keep : GoodIn wsL_law (wsV RL 89 RX4 yX4_keep wsX4_keep) := goodIn_app (goodIn_of _ (by decide +kernel)) ggL_law_X4_keep
set_option maxRecDepth 20000 in
theorem ggL_law_X3_on : GoodIn wsL_law wsX3_on := goodIn_r _ [485, 29, 39, 28, 470, 471, 2, 472, 90, 91, 92, 93, 37, 38, 473, 474, 475, 27, 476, 59, 477, 151, 152, 153, 60, 457, 458, 459, 460, 24, 23, 461, 244, 245, 246, 22, 247, 46, 47, 48, 49, 50, 45, 248, 249, 250, 52, 251, 252, 253, 254, 255, 219, 218, 373, 374, 375, 376, 210, 208, 377, 268, 269, 270, 378, 379, 380, 381, 382, 383, 384, 385, 386, 387, 276, 277, 278, 279, 280, 281, 282, 388, 389, 390, 391, 392, 393, 394, 395, 396, 397, 398, 399, 400, 401, 402, 403, 215, 216, 217, 314, 315, 316, 317, 318, 319, 320, 321, 322, 323, 324, 325, 326, 327, 328, 329, 330, 331, 332, 214, 797, 798, 799, 800, 801, 802, 803, 804, 805, 806, 807, 808, 809, 810, 811, 812, 813, 842, 843, 836, 837, 838, 839, 840, 841, 844, 845, 846, 847, 848, 849] (by decide +kernel) (by decide +kernel)
set_option maxRecDepth 20000 in
theorem gL_law_X3_on : GoodIn wsL_law (wsV RL 90 RX3 yX3_on wsX3_on) := goodIn_app (goodIn_of _ (by decide +kernel)) ggL_law_X3_on
set_option maxRecDepth 20000 in
theorem ggL_law_X4_on : GoodIn wsL_law wsX4_on := goodIn_r _ [489, 77, 70, 75, 74, 76, 260, 101, 102, 5, 103, 104, 105, 106, 107, 108, 79, 814, 815, 816, 817, 818, 819, 820, 821, 822, 823, 824, 825, 826, 827, 828, 829, 830, 831, 832, 833, 834, 835] (by decide +kernel) (by decide +kernel)
set_option maxRecDepth 20000 in
theorem gL_law_X4_on : GoodIn wsL_law (wsV RL 93 RX4 yX4_on wsX4_on) := goodIn_app (goodIn_of _ (by decide +kernel)) ggL_law_X4_on
set_option maxRecDepth 20000 in
theorem ggL_law_X3_talks : GoodIn wsL_law wsX3_talks := goodIn_r _ [493, 24, 34, 494, 384, 385, 22, 386, 46, 45, 50, 387, 276, 277, 52, 278, 255, 219, 279, 280, 281, 282, 252, 495, 389, 390, 391, 392, 393, 394, 797, 798, 799, 800, 801, 802, 803, 804, 805, 806, 807, 808, 809, 810, 811, 812, 813, 836, 837, 838, 839, 840, 841, 844, 845, 846, 847, 848, 849] (by decide +kernel) (by decide +kernel)
set_option maxRecDepth 20000 in
theorem gL_law_X3_talks : GoodIn wsL_law (wsV RL 94 RX3 yX3_talks wsX3_talks) := goodIn_app (goodIn_of _ (by decide +kernel)) ggL_law_X3_talks
set_option maxRecDepth 20000 in
theorem ggL_law_X4_talks : GoodIn wsL_law wsX4_talks := goodIn_r _ [499, 70, 129, 415, 416, 5, 417, 295, 296, 297, 298, 299, 300, 301, 302, 303, 418, 419, 420, 814, 815, 816, 817, 818, 819, 820, 821, 822, 823, 824, 825, 826, 827, 828, 829, 830, 831, 832, 833, 834, 835] (by decide +kernel) (by decide +kernel)
set_option maxRecDepth 20000 in
theorem gL_law_X4_talks : GoodIn wsL_law (wsV RL 97 RX4 yX4_talks wsX4_talks) := goodIn_app (goodIn_of _ (by decide +kernel)) ggL_law_X4_talks
