set_option maxRecDepth 20000 in
theorem ggL_law_X10_init : GoodIn wsL_law wsX10_init := goodIn_r _ [9, 10, 11, 12, 13, 14, 15, 16, 17, 18, 19, 20, 21, 22, 23, 24, 25, 26, 27, 28, 29, 30, 31, 32, 33, 34, 35, 36, 37, 38, 39, 40, 41, 42, 43, 44, 45, 46, 47, 48, 49, 50, 51, 52, 53, 54, 55, 56, 57, 58, 2, 59, 60, 61, 62, 63, 64, 65, 66, 67, 68, 69, 70, 71, 72, 73, 74, 75, 76, 77, 78, 79, 80, 81, 82, 83, 84, 85, 86, 87, 88, 89, 90, 91, 92, 93, 94, 95, 96, 97, 98, 99, 100, 101, 102, 103, 104, 105, 106, 107, 108, 109, 110, 111, 112, 113, 114, 115, 116, 117, 118, 119, 120, 121, 122, 123, 124, 125, 126, 924, 925, 926, 927, 928, 929, 930, 931, 932, 933, 934, 935, 936, 937, 938, 939, 889, 890, 891, 892, 893, 894, 895, 896, 897, 898, 899, 900, 940, 941, 942, 943, 944, 945, 946, 947, 948, 949, 950, 951, 952, 953, 954, 955, 956, 957, 958, 959, 960, 961, 962, 963, 964, 965, 966, 967, 968, 969, 970, 971, 972, 973, 974, 975] (by decide +kernel) (by decide +kernel)
set_option maxRecDepth 20000 in
theorem gL_law_X10_init : GoodIn wsL_law (wsX10_init) := ggL_law_X10_init
set_option maxRecDepth 20000 in
theorem ggL_law_X11_init : GoodIn wsL_law wsX11_init := goodIn_r _ [129, 130, 11, 12, 35, 131, 132, 133, 134, 135, 136, 137, 138, 139, 140, 141, 142, 143, 144, 901, 902, 903, 904, 905, 906, 907, 908, 909, 910, 911, 912, 913, 914, 915, 916, 917, 918, 919, 920, 921, 922, 923] (by decide +kernel) (by decide +kernel)
set_option maxRecDepth 20000 in
theorem gL_law_X11_init : GoodIn wsL_law (wsX11_init) := ggL_law_X11_init
set_option maxRecDepth 20000 in
theorem ggL_law_X10_sine : GoodIn wsL_law wsX10_sine := goodIn_r _ [148, 65, 58, 2, 59, 60, 61, 62] (by decide +kernel) (by decide +kernel)
set_option maxRecDepth 20000 in
theorem gL_law_X10_sine : GoodIn wsL_law (wsV RL 13 RX10 yX10_sine wsX10_sine) := goodIn_app (goodIn_of _ (by decide +kernel)) ggL_law_X10_sine
set_option maxRecDepth 20000 in
theorem ggL_law_X11_sine : GoodIn wsL_law wsX11_sine := goodIn_r _ [152, 153, 154, 5, 155, 156, 157, 158, 159] (by decide +kernel) (by decide +kernel)
set_option maxRecDepth 20000 in
theorem gL_law_X11_sine : GoodIn wsL_law (wsV RL 17 RX11 yX11_sine wsX11_sine) := goodIn_app (goodIn_of _ (by decide +kernel)) ggL_law_X11_sine
set_option maxRecDepth 20000 in
theorem ggL_law_X10_latitude : GoodIn wsL_law wsX10_latitude := goodIn_r _ [163, 164, 165, 166, 16, 167, 168, 2, 169, 170, 52, 53, 15, 54, 55, 56, 57, 58, 59, 60, 61, 62, 63, 64, 65, 889, 890, 891, 892, 893, 894, 895, 896, 897, 898, 899, 900, 924, 925, 926, 927, 928, 929, 930, 931, 932, 933, 934, 935, 936, 937, 938, 939] (by decide +kernel) (by decide +kernel)
set_option maxRecDepth 20000 in
theorem gL_law_X10_latitude : GoodIn wsL_law (wsV RL 18 RX10 yX10_latitude wsX10_latitude) := goodIn_app (goodIn_of _ (by decide +kernel)) ggL_law_X10_latitude
set_option maxRecDepth 20000 in
theorem ggL_law_X11_latitude : GoodIn wsL_law wsX11_latitude := goodIn_r _ [174, 175, 176, 177, 134, 178, 179, 5, 180, 901, 902, 903, 904, 905, 906, 907, 908, 909, 910, 911, 912, 913, 914, 915, 916, 917, 918, 919, 920, 921, 922, 923] (by decide +kernel) (by decide +kernel)
set_option maxRecDepth 20000 in
theorem gL_law_X11_latitude : GoodIn wsL_law (wsV RL 21 RX11 yX11_latitude wsX11_latitude) := goodIn_app (goodIn_of _ (by decide +kernel)) ggL_law_X11_latitude
set_option maxRecDepth 20000 in
theorem ggL_law_X10_corrections : GoodIn wsL_law wsX10_corrections := goodIn_r _ [184, 185, 166, 16, 167, 168, 2, 169, 186, 187, 188, 15, 189, 49, 50, 190, 191, 192, 193, 889, 890, 891, 892, 893, 894, 895, 896, 897, 898, 899, 900, 924, 925, 926, 927, 928, 929, 930, 931, 932, 933, 934, 935, 936, 937, 938, 939] (by decide +kernel) (by decide +kernel)
set_option maxRecDepth 20000 in
theorem gL_law_X10_corrections : GoodIn wsL_law (wsV RL 22 RX10 yX10_corrections wsX10_corrections) := goodIn_app (goodIn_of _ (by decide +kernel)) ggL_law_X10_corrections
set_option maxRecDepth 20000 in
theorem ggL_law_X11_corrections : GoodIn wsL_law wsX11_corrections := goodIn_r _ [197, 198, 177, 199, 135, 178, 179, 5, 180, 901, 902, 903, 904, 905, 906, 907, 908, 909, 910, 911, 912, 913, 914, 915, 916, 917, 918, 919, 920, 921, 922, 923] (by decide +kernel) (by decide +kernel)
set_option maxRecDepth 20000 in
theorem gL_law_X11_corrections : GoodIn wsL_law (wsV RL 25 RX11 yX11_corrections wsX11_corrections) := goodIn_app (goodIn_of _ (by decide +kernel)) ggL_law_X11_corrections
set_option maxRecDepth 20000 in
theorem ggL_law_X10_correct : GoodIn wsL_law wsX10_correct := goodIn_r _ [203, 204, 205, 16, 166, 167, 168, 2, 169, 889, 890, 891, 892, 893, 894, 895, 896, 897, 898, 899, 900, 924, 925, 926, 927, 928, 929, 930, 931, 932, 933, 934, 935, 936, 937, 938, 939] (by decide +kernel) (by decide +kernel)
set_option maxRecDepth 20000 in
theorem gL_law_X10_correct : GoodIn wsL_law (wsV RL 26 RX10 yX10_correct wsX10_correct) := goodIn_app (goodIn_of _ (by decide +kernel)) ggL_law_X10_correct
set_option maxRecDepth 20000 in
theorem ggL_law_X11_correct : GoodIn wsL_law wsX11_correct := goodIn_r _ [209, 199, 210, 211, 177, 135, 178, 179, 5, 180, 901, 902, 903, 904, 905, 906, 907, 908, 909, 910, 911, 912, 913, 914, 915, 916, 917, 918, 919, 920, 921, 922, 923] (by decide +kernel) (by decide +kernel)
set_option maxRecDepth 20000 in
theorem gL_law_X11_correct : GoodIn wsL_law (wsV RL 30 RX11 yX11_correct wsX11_correct) := goodIn_app (goodIn_of _ (by decide +kernel)) ggL_law_X11_correct
set_option maxRecDepth 20000 in
theorem ggL_law_X10_copy : GoodIn wsL_law wsX10_copy := goodIn_r _ [215, 16, 166, 216, 217, 218, 219, 167, 168, 2, 169, 889, 890, 891, 892, 893, 894, 895, 896, 897, 898, 899, 900, 924, 925, 926, 927, 928, 929, 930, 931, 932, 933, 934, 935, 936, 937, 938, 939] (by decide +kernel) (by decide +kernel)
set_option maxRecDepth 20000 in
theorem gL_law_X10_copy : GoodIn wsL_law (wsV RL 31 RX10 yX10_copy wsX10_copy) := goodIn_app (goodIn_of _ (by decide +kernel)) ggL_law_X10_copy
set_option maxRecDepth 20000 in
theorem ggL_law_X11_copy : GoodIn wsL_law wsX11_copy := goodIn_r _ [223, 199, 177, 135, 178, 179, 5, 180, 901, 902, 903, 904, 905, 906, 907, 908, 909, 910, 911, 912, 913, 914, 915, 916, 917, 918, 919, 920, 921, 922, 923] (by decide +kernel) (by decide +kernel)
set_option maxRecDepth 20000 in
theorem gL_law_X11_copy : GoodIn wsL_law (wsV RL 35 RX11 yX11_copy wsX11_copy) := goodIn_app (goodIn_of _ (by decide +kernel)) ggL_law_X11_copy
set_option maxRecDepth 20000 in
theorem ggL_law_X10_sun : GoodIn wsL_law wsX10_sun := goodIn_r _ [227, 228, 166, 16, 229, 230, 2, 231, 232, 233, 234, 235, 236, 167, 168, 169, 237, 238, 239, 15, 240, 241, 242, 243, 244, 50, 49, 245, 246, 247, 248, 57, 249, 56, 250, 251, 252, 253, 254, 255, 256, 58, 59, 60, 61, 62, 257, 258, 63, 64, 65, 259, 260, 261, 262, 263, 264, 265, 266, 889, 890, 891, 892, 893, 894, 895, 896, 897, 898, 899, 900, 924, 925, 926, 927, 928, 929, 930, 931, 932, 933, 934, 935, 936, 937, 938, 939] (by decide +kernel) (by decide +kernel)
set_option maxRecDepth 20000 in
theorem gL_law_X10_sun : GoodIn wsL_law (wsV RL 36 RX10 yX10_sun wsX10_sun) := goodIn_app (goodIn_of _ (by decide +kernel)) ggL_law_X10_sun
set_option maxRecDepth 20000 in
theorem ggL_law_X11_sun : GoodIn wsL_law wsX11_sun := goodIn_r _ [270, 271, 177, 272, 273, 274, 275, 276, 5, 277, 278, 279, 178, 179, 180, 280, 281, 282, 283, 134, 284, 285, 286, 287, 158, 198, 288, 289, 290, 153, 154, 155, 156, 157, 159, 291, 292, 293, 176, 294, 295, 296, 297, 298, 299, 300, 301, 302, 303, 199, 135, 304, 305, 306, 901, 902, 903, 904, 905, 906, 907, 908, 909, 910, 911, 912, 913, 914, 915, 916, 917, 918, 919, 920, 921, 922, 923] (by decide +kernel) (by decide +kernel)
set_option maxRecDepth 20000 in
theorem gL_law_X11_sun : GoodIn wsL_law (wsV RL 39 RX11 yX11_sun wsX11_sun) := goodIn_app (goodIn_of _ (by decide +kernel)) ggL_law_X11_sun
set_option maxRecDepth 20000 in
theorem ggL_law_X10_dial : GoodIn wsL_law wsX10_dial := goodIn_r _ [310, 311, 166, 312, 313, 314, 315, 316, 317, 2, 318, 319, 167, 168, 169, 320, 321, 322, 323, 324, 325, 326, 327, 328, 329, 330, 331, 332, 333, 334, 335, 336, 337, 338, 339, 340, 341, 342, 11, 12, 343, 344, 345, 346, 22, 18, 347, 348, 349, 21, 350, 72, 69, 71, 73, 351, 352, 353, 354, 355, 356, 255, 357, 976, 977, 978, 979, 980, 981, 982, 889, 890, 891, 892, 893, 894, 895, 896, 897, 898, 899, 900, 940, 941, 942, 943] (by decide +kernel) (by decide +kernel)
set_option maxRecDepth 20000 in
theorem gL_law_X10_dial : GoodIn wsL_law (wsV RL 40 RX10 yX10_dial wsX10_dial) := goodIn_app (goodIn_of _ (by decide +kernel)) ggL_law_X10_dial
set_option maxRecDepth 20000 in
theorem ggL_law_X11_dial : GoodIn wsL_law wsX11_dial := goodIn_r _ [361, 362, 363, 177, 364, 365, 366, 5, 367, 368, 178, 179, 180, 369, 370, 371, 372, 373, 374, 375, 376, 377, 144, 132, 133, 131, 378, 379, 380, 381, 901, 902, 903, 904, 905, 906, 907, 908, 909, 910, 911, 912, 913, 914, 915, 916, 917, 918, 919, 920, 921, 922, 923] (by decide +kernel) (by decide +kernel)
set_option maxRecDepth 20000 in
theorem gL_law_X11_dial : GoodIn wsL_law (wsV RL 44 RX11 yX11_dial wsX11_dial) := goodIn_app (goodIn_of _ (by decide +kernel)) ggL_law_X11_dial
