/-! part 82.1: the law's words -/
set_option maxRecDepth 20000 in
theorem ggL_law_X7_init : GoodIn wsL_law wsX7_init := goodIn_r _ [8, 9, 10, 11, 12, 13, 14, 15, 16, 17, 18, 19, 20, 21, 22, 23, 24, 25, 26, 27, 28, 29, 30, 31, 32, 33, 34, 35, 36, 37, 38, 39, 40, 41, 42, 43, 44, 45, 46, 47, 48, 49, 50, 51, 52, 53, 54, 55, 56, 57, 58, 59, 60, 61, 62, 63, 64, 65, 66, 67, 68, 69, 70, 71, 72, 73, 74, 75, 76, 77, 78, 79, 80, 81, 82, 83, 84, 85, 86, 87, 88, 89, 90, 91, 92, 93, 94, 95, 96, 97, 98, 99, 100, 101, 102, 103, 104, 105, 106, 107, 108, 109, 110, 111, 112, 113, 114, 115, 116, 117, 118, 840, 841, 842, 843, 844, 845, 846, 847, 848, 893, 894, 895, 896, 897, 898, 899, 900, 901, 902, 903, 904, 905, 906, 907, 908, 909, 910, 911, 912, 913, 914, 915, 916, 917, 918, 919, 920, 921, 922, 923, 924, 925, 926, 927, 928, 929, 930, 931, 932, 933, 934, 935, 936, 937, 938, 939, 940] (by decide +kernel) (by decide +kernel)
set_option maxRecDepth 20000 in
theorem gL_law_X7_init : GoodIn wsL_law (wsX7_init) := ggL_law_X7_init
set_option maxRecDepth 20000 in
theorem ggL_law_X8_init : GoodIn wsL_law wsX8_init := goodIn_r _ [121, 122, 10, 11, 46, 123, 124, 125, 126, 127, 128, 129, 130, 131, 132, 133, 134, 135, 136, 137, 138, 139, 140, 141, 142, 143, 144, 145, 146, 147, 148, 149, 150, 151, 152, 849, 850, 851, 852, 853, 854, 855, 856, 857, 858, 859, 860, 861, 862, 863, 864, 865, 866, 867, 868, 869, 870, 871, 872, 873, 874, 875, 876, 877, 878, 879, 880, 881, 882, 883, 884, 885, 886, 887, 888, 889, 890, 891, 892] (by decide +kernel) (by decide +kernel)
set_option maxRecDepth 20000 in
theorem gL_law_X8_init : GoodIn wsL_law (wsX8_init) := ggL_law_X8_init
set_option maxRecDepth 20000 in
theorem ggL_law_X7_plain : GoodIn wsL_law wsX7_plain := goodIn_r _ [156, 41, 13, 19, 23, 157, 27, 158, 159, 160, 161, 2, 162, 163, 164, 165, 166, 167, 168, 169, 170, 171, 15, 172, 48, 173, 174, 175, 176, 49, 177, 178, 179, 180, 181, 182, 183, 184, 185, 186, 18, 187, 188, 189, 190, 191, 47, 192, 193, 194, 195, 196, 197, 198, 199, 200, 201, 202, 57, 54, 55, 56, 58, 59, 60, 840, 841, 842, 843, 844, 845, 846, 847, 848, 903, 904, 905, 906, 907, 908, 909, 910, 911, 896, 897, 898, 899, 900, 901, 902, 893, 894, 895] (by decide +kernel) (by decide +kernel)
set_option maxRecDepth 20000 in
theorem gL_law_X7_plain : GoodIn wsL_law (wsV RL 13 RX7 yX7_plain wsX7_plain) := goodIn_app (goodIn_of _ (by decide +kernel)) ggL_law_X7_plain
set_option maxRecDepth 20000 in
theorem ggL_law_X8_plain : GoodIn wsL_law wsX8_plain := goodIn_r _ [206, 207, 208, 209, 210, 126, 129, 127, 130, 128, 131, 211, 212, 213, 214, 215, 216, 217, 5, 218, 219, 220, 221, 222, 223, 224, 225, 226, 227, 228, 123, 124, 229, 230, 231, 232, 233, 234, 235, 236, 125, 237, 238, 239, 240, 849, 850, 851, 852, 853, 854, 855, 856, 857, 858, 859, 860, 861, 862, 863, 864, 865, 866, 867, 868, 869, 870, 871, 872, 873, 874, 875, 876, 877, 878, 879, 880, 881, 882, 883, 884, 885, 886, 887, 888, 889, 890, 891, 892] (by decide +kernel) (by decide +kernel)
set_option maxRecDepth 20000 in
theorem gL_law_X8_plain : GoodIn wsL_law (wsV RL 17 RX8 yX8_plain wsX8_plain) := goodIn_app (goodIn_of _ (by decide +kernel)) ggL_law_X8_plain
set_option maxRecDepth 20000 in
theorem ggL_law_X7_ofField : GoodIn wsL_law wsX7_ofField := goodIn_r _ [244, 19, 245, 246, 247, 248, 249, 250, 18, 251, 57, 840, 841, 842, 843, 844, 845, 846, 847, 848, 896, 897, 898, 899, 900, 901, 902] (by decide +kernel) (by decide +kernel)
set_option maxRecDepth 20000 in
theorem gL_law_X7_ofField : GoodIn wsL_law (wsV RL 18 RX7 yX7_ofField wsX7_ofField) := goodIn_app (goodIn_of _ (by decide +kernel)) ggL_law_X7_ofField
set_option maxRecDepth 20000 in
theorem ggL_law_X8_ofField : GoodIn wsL_law wsX8_ofField := goodIn_r _ [255, 126, 127, 128, 256, 257, 258, 5, 259, 210, 849, 850, 851, 852, 853, 854, 855, 856, 857, 858, 859, 860, 861, 862, 863, 864, 865, 866, 867, 868, 869, 870, 871, 872, 873, 874, 875, 876, 877, 878, 879, 880, 881, 882, 883, 884, 885, 886, 887, 888, 889, 890, 891, 892] (by decide +kernel) (by decide +kernel)
set_option maxRecDepth 20000 in
theorem gL_law_X8_ofField : GoodIn wsL_law (wsV RL 22 RX8 yX8_ofField wsX8_ofField) := goodIn_app (goodIn_of _ (by decide +kernel)) ggL_law_X8_ofField
set_option maxRecDepth 20000 in
theorem ggL_law_X7_set : GoodIn wsL_law wsX7_set := goodIn_r _ [263, 19, 159, 264, 265, 266, 267, 268, 2, 269, 163, 164, 165, 840, 841, 842, 843, 844, 845, 846, 847, 848, 896, 897, 898, 899, 900, 901, 902] (by decide +kernel) (by decide +kernel)
set_option maxRecDepth 20000 in
theorem gL_law_X7_set : GoodIn wsL_law (wsV RL 23 RX7 yX7_set wsX7_set) := goodIn_app (goodIn_of _ (by decide +kernel)) ggL_law_X7_set
set_option maxRecDepth 20000 in
theorem ggL_law_X8_set : GoodIn wsL_law wsX8_set := goodIn_r _ [273, 213, 214, 215, 274, 275, 5, 276, 219, 220, 221, 277, 278, 279, 280, 210, 849, 850, 851, 852, 853, 854, 855, 856, 857, 858, 859, 860, 861, 862, 863, 864, 865, 866, 867, 868, 869, 870, 871, 872, 873, 874, 875, 876, 877, 878, 879, 880, 881, 882, 883, 884, 885, 886, 887, 888, 889, 890, 891, 892] (by decide +kernel) (by decide +kernel)
set_option maxRecDepth 20000 in
theorem gL_law_X8_set : GoodIn wsL_law (wsV RL 26 RX8 yX8_set wsX8_set) := goodIn_app (goodIn_of _ (by decide +kernel)) ggL_law_X8_set
set_option maxRecDepth 20000 in
theorem ggL_law_X7_cloud : GoodIn wsL_law wsX7_cloud := goodIn_r _ [284, 19, 159, 23, 157, 163, 164, 2, 165, 285, 286, 287, 22, 288, 68, 65, 66, 67, 840, 841, 842, 843, 844, 845, 846, 847, 848, 896, 897, 898, 899, 900, 901, 902, 903, 904, 905, 906] (by decide +kernel) (by decide +kernel)
set_option maxRecDepth 20000 in
theorem gL_law_X7_cloud : GoodIn wsL_law (wsV RL 27 RX7 yX7_cloud wsX7_cloud) := goodIn_app (goodIn_of _ (by decide +kernel)) ggL_law_X7_cloud
set_option maxRecDepth 20000 in
theorem ggL_law_X8_cloud : GoodIn wsL_law wsX8_cloud := goodIn_r _ [292, 211, 132, 133, 134, 219, 220, 5, 221, 277, 278, 279, 280, 210, 849, 850, 851, 852, 853, 854, 855, 856, 857, 858, 859, 860, 861, 862, 863, 864, 865, 866, 867, 868, 869, 870, 871, 872, 873, 874, 875, 876, 877, 878, 879, 880, 881, 882, 883, 884, 885, 886, 887, 888, 889, 890, 891, 892] (by decide +kernel) (by decide +kernel)
set_option maxRecDepth 20000 in
theorem gL_law_X8_cloud : GoodIn wsL_law (wsV RL 31 RX8 yX8_cloud wsX8_cloud) := goodIn_app (goodIn_of _ (by decide +kernel)) ggL_law_X8_cloud
set_option maxRecDepth 20000 in
theorem ggL_law_X7_ofCloud : GoodIn wsL_law wsX7_ofCloud := goodIn_r _ [296, 23, 19, 264, 297, 31, 298, 299, 300, 301, 22, 302, 68, 303, 304, 2, 305, 163, 164, 165, 306, 307, 308, 309, 65, 310, 311, 312, 30, 313, 87, 314, 89, 315, 316, 317, 318, 319, 320, 200, 201, 202, 321, 322, 323, 324, 325, 88, 326, 82, 327, 83, 84, 85, 86, 328, 329, 330, 331, 332, 333, 334, 335, 249, 250, 18, 251, 57, 336, 337, 338, 339, 340, 341, 342, 343, 344, 345, 346, 347, 348, 349, 26, 350, 73, 76, 840, 841, 842, 843, 844, 845, 846, 847, 848, 896, 897, 898, 899, 900, 901, 902, 903, 904, 905, 906, 912, 913, 914, 915, 916, 917, 918, 919, 907, 908, 909, 910, 911] (by decide +kernel) (by decide +kernel)
set_option maxRecDepth 20000 in
theorem gL_law_X7_ofCloud : GoodIn wsL_law (wsV RL 32 RX7 yX7_ofCloud wsX7_ofCloud) := goodIn_app (goodIn_of _ (by decide +kernel)) ggL_law_X7_ofCloud
set_option maxRecDepth 20000 in
theorem ggL_law_X8_ofCloud : GoodIn wsL_law wsX8_ofCloud := goodIn_r _ [354, 211, 144, 134, 355, 356, 5, 357, 219, 220, 221, 358, 359, 360, 361, 213, 212, 362, 363, 364, 365, 366, 367, 368, 369, 370, 139, 133, 140, 141, 145, 146, 142, 143, 371, 372, 373, 374, 214, 137, 375, 376, 377, 378, 132, 256, 257, 258, 259, 210, 379, 380, 381, 382, 136, 138, 135, 383, 384, 385, 386, 849, 850, 851, 852, 853, 854, 855, 856, 857, 858, 859, 860, 861, 862, 863, 864, 865, 866, 867, 868, 869, 870, 871, 872, 873, 874, 875, 876, 877, 878, 879, 880, 881, 882, 883, 884, 885, 886, 887, 888, 889, 890, 891, 892] (by decide +kernel) (by decide +kernel)
set_option maxRecDepth 20000 in
theorem gL_law_X8_ofCloud : GoodIn wsL_law (wsV RL 35 RX8 yX8_ofCloud wsX8_ofCloud) := goodIn_app (goodIn_of _ (by decide +kernel)) ggL_law_X8_ofCloud
set_option maxRecDepth 20000 in
theorem ggL_law_X7_shot : GoodIn wsL_law wsX7_shot := goodIn_r _ [390, 19, 27, 158, 248, 249, 250, 18, 251, 57, 391, 392, 2, 393, 163, 164, 165, 303, 304, 305, 394, 395, 396, 397, 398, 399, 26, 400, 73, 74, 75, 76, 840, 841, 842, 843, 844, 845, 846, 847, 848, 907, 908, 909, 910, 911, 896, 897, 898, 899, 900, 901, 902] (by decide +kernel) (by decide +kernel)
set_option maxRecDepth 20000 in
theorem gL_law_X7_shot : GoodIn wsL_law (wsV RL 36 RX7 yX7_shot wsX7_shot) := goodIn_app (goodIn_of _ (by decide +kernel)) ggL_law_X7_shot
set_option maxRecDepth 20000 in
theorem ggL_law_X8_shot : GoodIn wsL_law wsX8_shot := goodIn_r _ [404, 212, 256, 257, 258, 5, 259, 210, 219, 220, 221, 355, 356, 357, 405, 406, 407, 408, 135, 136, 137, 138, 849, 850, 851, 852, 853, 854, 855, 856, 857, 858, 859, 860, 861, 862, 863, 864, 865, 866, 867, 868, 869, 870, 871, 872, 873, 874, 875, 876, 877, 878, 879, 880, 881, 882, 883, 884, 885, 886, 887, 888, 889, 890, 891, 892] (by decide +kernel) (by decide +kernel)
set_option maxRecDepth 20000 in
theorem gL_law_X8_shot : GoodIn wsL_law (wsV RL 39 RX8 yX8_shot wsX8_shot) := goodIn_app (goodIn_of _ (by decide +kernel)) ggL_law_X8_shot
set_option maxRecDepth 20000 in
theorem ggL_law_X7_ofShot : GoodIn wsL_law wsX7_ofShot := goodIn_r _ [412, 27, 413, 414, 415, 416, 417, 418, 419, 26, 420, 77, 421, 348, 349, 350, 73, 76, 840, 841, 842, 843, 844, 845, 846, 847, 848, 907, 908, 909, 910, 911] (by decide +kernel) (by decide +kernel)
set_option maxRecDepth 20000 in
theorem gL_law_X7_ofShot : GoodIn wsL_law (wsV RL 40 RX7 yX7_ofShot wsX7_ofShot) := goodIn_app (goodIn_of _ (by decide +kernel)) ggL_law_X7_ofShot
set_option maxRecDepth 20000 in
theorem ggL_law_X8_ofShot : GoodIn wsL_law wsX8_ofShot := goodIn_r _ [425, 135, 136, 137, 138, 426, 427, 428, 5, 429, 212, 383, 384, 385, 386, 849, 850, 851, 852, 853, 854, 855, 856, 857, 858, 859, 860, 861, 862, 863, 864, 865, 866, 867, 868, 869, 870, 871, 872, 873, 874, 875, 876, 877, 878, 879, 880, 881, 882, 883, 884, 885, 886, 887, 888, 889, 890, 891, 892] (by decide +kernel) (by decide +kernel)
set_option maxRecDepth 20000 in
theorem gL_law_X8_ofShot : GoodIn wsL_law (wsV RL 43 RX8 yX8_ofShot wsX8_ofShot) := goodIn_app (goodIn_of _ (by decide +kernel)) ggL_law_X8_ofShot
set_option maxRecDepth 20000 in
theorem ggL_law_X7_back : GoodIn wsL_law wsX7_back := goodIn_r _ [433, 27, 158, 163, 164, 2, 165, 840, 841, 842, 843, 844, 845, 846, 847, 848, 907, 908, 909, 910, 911] (by decide +kernel) (by decide +kernel)
set_option maxRecDepth 20000 in
theorem gL_law_X7_back : GoodIn wsL_law (wsV RL 44 RX7 yX7_back wsX7_back) := goodIn_app (goodIn_of _ (by decide +kernel)) ggL_law_X7_back
set_option maxRecDepth 20000 in
theorem ggL_law_X8_back : GoodIn wsL_law wsX8_back := goodIn_r _ [437, 212, 219, 220, 5, 221, 849, 850, 851, 852, 853, 854, 855, 856, 857, 858, 859, 860, 861, 862, 863, 864, 865, 866, 867, 868, 869, 870, 871, 872, 873, 874, 875, 876, 877, 878, 879, 880, 881, 882, 883, 884, 885, 886, 887, 888, 889, 890, 891, 892] (by decide +kernel) (by decide +kernel)
set_option maxRecDepth 20000 in
theorem gL_law_X8_back : GoodIn wsL_law (wsV RL 48 RX8 yX8_back wsX8_back) := goodIn_app (goodIn_of _ (by decide +kernel)) ggL_law_X8_back
set_option maxRecDepth 20000 in
theorem ggL_law_X7_fell : GoodIn wsL_law wsX7_fell := goodIn_r _ [441, 19, 31, 442, 443, 248, 249, 250, 18, 251, 57, 303, 304, 2, 305, 163, 164, 165, 310, 311, 312, 30, 313, 87, 314, 89, 315, 316, 317, 318, 319, 320, 200, 201, 202, 321, 322, 323, 324, 325, 88, 326, 82, 327, 83, 84, 85, 86, 328, 329, 330, 331, 332, 333, 334, 307, 308, 22, 309, 65, 335, 336, 337, 338, 339, 340, 341, 342, 343, 344, 345, 346, 347, 348, 349, 26, 350, 73, 76, 840, 841, 842, 843, 844, 845, 846, 847, 848, 912, 913, 914, 915, 916, 917, 918, 919, 896, 897, 898, 899, 900, 901, 902, 907, 908, 909, 910, 911, 903, 904, 905, 906] (by decide +kernel) (by decide +kernel)
set_option maxRecDepth 20000 in
theorem gL_law_X7_fell : GoodIn wsL_law (wsV RL 49 RX7 yX7_fell wsX7_fell) := goodIn_app (goodIn_of _ (by decide +kernel)) ggL_law_X7_fell
set_option maxRecDepth 20000 in
theorem ggL_law_X8_fell : GoodIn wsL_law wsX8_fell := goodIn_r _ [447, 142, 143, 256, 257, 258, 5, 259, 210, 355, 356, 357, 219, 220, 221, 358, 359, 360, 361, 213, 212, 362, 363, 364, 365, 366, 367, 368, 369, 370, 211, 139, 133, 140, 141, 145, 146, 371, 372, 373, 374, 144, 134, 214, 137, 375, 376, 377, 378, 132, 379, 380, 381, 382, 136, 138, 135, 383, 384, 385, 386, 849, 850, 851, 852, 853, 854, 855, 856, 857, 858, 859, 860, 861, 862, 863, 864, 865, 866, 867, 868, 869, 870, 871, 872, 873, 874, 875, 876, 877, 878, 879, 880, 881, 882, 883, 884, 885, 886, 887, 888, 889, 890, 891, 892] (by decide +kernel) (by decide +kernel)
set_option maxRecDepth 20000 in
theorem gL_law_X8_fell : GoodIn wsL_law (wsV RL 52 RX8 yX8_fell wsX8_fell) := goodIn_app (goodIn_of _ (by decide +kernel)) ggL_law_X8_fell
set_option maxRecDepth 20000 in
theorem ggL_law_X7_by : GoodIn wsL_law wsX7_by := goodIn_r _ [451, 27, 31, 452, 453, 417, 418, 419, 26, 420, 77, 163, 164, 2, 165, 310, 311, 312, 30, 313, 87, 314, 89, 315, 316, 317, 318, 319, 320, 200, 201, 202, 321, 322, 323, 324, 325, 88, 326, 82, 327, 83, 84, 85, 86, 328, 329, 330, 331, 332, 333, 334, 307, 308, 22, 309, 65, 335, 249, 250, 18, 251, 57, 336, 337, 338, 339, 340, 341, 342, 343, 344, 345, 346, 347, 348, 349, 350, 73, 76, 840, 841, 842, 843, 844, 845, 846, 847, 848, 912, 913, 914, 915, 916, 917, 918, 919, 907, 908, 909, 910, 911, 896, 897, 898, 899, 900, 901, 902, 903, 904, 905, 906] (by decide +kernel) (by decide +kernel)
set_option maxRecDepth 20000 in
theorem gL_law_X7_by : GoodIn wsL_law (wsV RL 53 RX7 yX7_by wsX7_by) := goodIn_app (goodIn_of _ (by decide +kernel)) ggL_law_X7_by
set_option maxRecDepth 20000 in
theorem ggL_law_X8_by : GoodIn wsL_law wsX8_by := goodIn_r _ [457, 145, 146, 426, 427, 428, 5, 429, 212, 358, 359, 360, 361, 213, 362, 363, 364, 365, 366, 367, 368, 369, 370, 211, 139, 133, 140, 141, 142, 143, 371, 372, 373, 374, 144, 134, 214, 137, 375, 376, 377, 378, 132, 256, 257, 258, 259, 210, 379, 380, 381, 382, 136, 138, 135, 383, 384, 385, 386, 849, 850, 851, 852, 853, 854, 855, 856, 857, 858, 859, 860, 861, 862, 863, 864, 865, 866, 867, 868, 869, 870, 871, 872, 873, 874, 875, 876, 877, 878, 879, 880, 881, 882, 883, 884, 885, 886, 887, 888, 889, 890, 891, 892] (by decide +kernel) (by decide +kernel)
set_option maxRecDepth 20000 in
theorem gL_law_X8_by : GoodIn wsL_law (wsV RL 56 RX8 yX8_by wsX8_by) := goodIn_app (goodIn_of _ (by decide +kernel)) ggL_law_X8_by
