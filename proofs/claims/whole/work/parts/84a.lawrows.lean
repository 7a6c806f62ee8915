set_option maxRecDepth 20000 in
theorem ggL_law_X10_init : GoodIn wsL_law wsX10_init := goodIn_r _ [9, 10, 11, 12, 13, 14, 15, 16, 17, 18, 19, 20, 21, 22, 23, 24, 25, 26, 27, 28, 29, 30, 31, 32, 33, 34, 35, 36, 37, 38, 39, 40, 41, 42, 43, 44, 45, 46, 47, 48, 49, 50, 51, 52, 53, 54, 55, 56, 57, 58, 2, 59, 60, 61, 62, 63, 64, 65, 66, 67, 68, 69, 70, 71, 72, 73, 74, 75, 76, 77, 78, 79, 80, 81, 82, 83, 84, 85, 86, 87, 88, 89, 90, 91, 92, 93, 94, 95, 96, 97, 98, 99, 100, 101, 102, 103, 104, 105, 106, 107, 108, 109, 110, 111, 112, 113, 114, 115, 116, 117, 118, 119, 120, 121, 122, 123, 124, 922, 923, 924, 925, 926, 927, 928, 929, 930, 931, 932, 933, 934, 935, 936, 937, 887, 888, 889, 890, 891, 892, 893, 894, 895, 896, 897, 898, 938, 939, 940, 941, 942, 943, 944, 945, 946, 947, 948, 949, 950, 951, 952, 953, 954, 955, 956, 957, 958, 959, 960, 961, 962, 963, 964, 965, 966, 967, 968, 969, 970, 971, 972] (by decide +kernel) (by decide +kernel)
set_option maxRecDepth 20000 in
theorem gL_law_X10_init : GoodIn wsL_law (wsX10_init) := ggL_law_X10_init
set_option maxRecDepth 20000 in
theorem ggL_law_X11_init : GoodIn wsL_law wsX11_init := goodIn_r _ [127, 128, 11, 12, 35, 129, 130, 131, 132, 133, 134, 135, 136, 137, 138, 139, 140, 141, 142, 899, 900, 901, 902, 903, 904, 905, 906, 907, 908, 909, 910, 911, 912, 913, 914, 915, 916, 917, 918, 919, 920, 921] (by decide +kernel) (by decide +kernel)
set_option maxRecDepth 20000 in
theorem gL_law_X11_init : GoodIn wsL_law (wsX11_init) := ggL_law_X11_init
set_option maxRecDepth 20000 in
theorem ggL_law_X10_sine : GoodIn wsL_law wsX10_sine := goodIn_r _ [146, 65, 58, 2, 59, 60, 61, 62] (by decide +kernel) (by decide +kernel)
set_option maxRecDepth 20000 in
theorem gL_law_X10_sine : GoodIn wsL_law (wsV RL 13 RX10 yX10_sine wsX10_sine) := goodIn_app (goodIn_of _ (by decide +kernel)) ggL_law_X10_sine
set_option maxRecDepth 20000 in
theorem ggL_law_X11_sine : GoodIn wsL_law wsX11_sine := goodIn_r _ [150, 151, 152, 5, 153, 154, 155, 156, 157] (by decide +kernel) (by decide +kernel)
set_option maxRecDepth 20000 in
theorem gL_law_X11_sine : GoodIn wsL_law (wsV RL 17 RX11 yX11_sine wsX11_sine) := goodIn_app (goodIn_of _ (by decide +kernel)) ggL_law_X11_sine
set_option maxRecDepth 20000 in
theorem ggL_law_X10_latitude : GoodIn wsL_law wsX10_latitude := goodIn_r _ [161, 162, 163, 164, 16, 165, 166, 2, 167, 168, 52, 53, 15, 54, 55, 56, 57, 58, 59, 60, 61, 62, 63, 64, 65, 887, 888, 889, 890, 891, 892, 893, 894, 895, 896, 897, 898, 922, 923, 924, 925, 926, 927, 928, 929, 930, 931, 932, 933, 934, 935, 936, 937] (by decide +kernel) (by decide +kernel)
set_option maxRecDepth 20000 in
theorem gL_law_X10_latitude : GoodIn wsL_law (wsV RL 18 RX10 yX10_latitude wsX10_latitude) := goodIn_app (goodIn_of _ (by decide +kernel)) ggL_law_X10_latitude
set_option maxRecDepth 20000 in
theorem ggL_law_X11_latitude : GoodIn wsL_law wsX11_latitude := goodIn_r _ [172, 173, 174, 175, 132, 176, 177, 5, 178, 899, 900, 901, 902, 903, 904, 905, 906, 907, 908, 909, 910, 911, 912, 913, 914, 915, 916, 917, 918, 919, 920, 921] (by decide +kernel) (by decide +kernel)
set_option maxRecDepth 20000 in
theorem gL_law_X11_latitude : GoodIn wsL_law (wsV RL 21 RX11 yX11_latitude wsX11_latitude) := goodIn_app (goodIn_of _ (by decide +kernel)) ggL_law_X11_latitude
set_option maxRecDepth 20000 in
theorem ggL_law_X10_corrections : GoodIn wsL_law wsX10_corrections := goodIn_r _ [182, 183, 164, 16, 165, 166, 2, 167, 184, 185, 186, 15, 187, 49, 50, 188, 189, 190, 191, 887, 888, 889, 890, 891, 892, 893, 894, 895, 896, 897, 898, 922, 923, 924, 925, 926, 927, 928, 929, 930, 931, 932, 933, 934, 935, 936, 937] (by decide +kernel) (by decide +kernel)
set_option maxRecDepth 20000 in
theorem gL_law_X10_corrections : GoodIn wsL_law (wsV RL 22 RX10 yX10_corrections wsX10_corrections) := goodIn_app (goodIn_of _ (by decide +kernel)) ggL_law_X10_corrections
set_option maxRecDepth 20000 in
theorem ggL_law_X11_corrections : GoodIn wsL_law wsX11_corrections := goodIn_r _ [195, 196, 175, 197, 133, 176, 177, 5, 178, 899, 900, 901, 902, 903, 904, 905, 906, 907, 908, 909, 910, 911, 912, 913, 914, 915, 916, 917, 918, 919, 920, 921] (by decide +kernel) (by decide +kernel)
set_option maxRecDepth 20000 in
theorem gL_law_X11_corrections : GoodIn wsL_law (wsV RL 25 RX11 yX11_corrections wsX11_corrections) := goodIn_app (goodIn_of _ (by decide +kernel)) ggL_law_X11_corrections
set_option maxRecDepth 20000 in
theorem ggL_law_X10_correct : GoodIn wsL_law wsX10_correct := goodIn_r _ [201, 202, 203, 16, 164, 165, 166, 2, 167, 887, 888, 889, 890, 891, 892, 893, 894, 895, 896, 897, 898, 922, 923, 924, 925, 926, 927, 928, 929, 930, 931, 932, 933, 934, 935, 936, 937] (by decide +kernel) (by decide +kernel)
set_option maxRecDepth 20000 in
theorem gL_law_X10_correct : GoodIn wsL_law (wsV RL 26 RX10 yX10_correct wsX10_correct) := goodIn_app (goodIn_of _ (by decide +kernel)) ggL_law_X10_correct
set_option maxRecDepth 20000 in
theorem ggL_law_X11_correct : GoodIn wsL_law wsX11_correct := goodIn_r _ [207, 197, 208, 209, 175, 133, 176, 177, 5, 178, 899, 900, 901, 902, 903, 904, 905, 906, 907, 908, 909, 910, 911, 912, 913, 914, 915, 916, 917, 918, 919, 920, 921] (by decide +kernel) (by decide +kernel)
set_option maxRecDepth 20000 in
theorem gL_law_X11_correct : GoodIn wsL_law (wsV RL 30 RX11 yX11_correct wsX11_correct) := goodIn_app (goodIn_of _ (by decide +kernel)) ggL_law_X11_correct
set_option maxRecDepth 20000 in
theorem ggL_law_X10_copy : GoodIn wsL_law wsX10_copy := goodIn_r _ [213, 16, 164, 214, 215, 216, 217, 165, 166, 2, 167, 887, 888, 889, 890, 891, 892, 893, 894, 895, 896, 897, 898, 922, 923, 924, 925, 926, 927, 928, 929, 930, 931, 932, 933, 934, 935, 936, 937] (by decide +kernel) (by decide +kernel)
set_option maxRecDepth 20000 in
theorem gL_law_X10_copy : GoodIn wsL_law (wsV RL 31 RX10 yX10_copy wsX10_copy) := goodIn_app (goodIn_of _ (by decide +kernel)) ggL_law_X10_copy
set_option maxRecDepth 20000 in
theorem ggL_law_X11_copy : GoodIn wsL_law wsX11_copy := goodIn_r _ [221, 197, 175, 133, 176, 177, 5, 178, 899, 900, 901, 902, 903, 904, 905, 906, 907, 908, 909, 910, 911, 912, 913, 914, 915, 916, 917, 918, 919, 920, 921] (by decide +kernel) (by decide +kernel)
set_option maxRecDepth 20000 in
theorem gL_law_X11_copy : GoodIn wsL_law (wsV RL 35 RX11 yX11_copy wsX11_copy) := goodIn_app (goodIn_of _ (by decide +kernel)) ggL_law_X11_copy
set_option maxRecDepth 20000 in
theorem ggL_law_X10_sun : GoodIn wsL_law wsX10_sun := goodIn_r _ [225, 226, 164, 16, 227, 228, 2, 229, 230, 231, 232, 233, 234, 165, 166, 167, 235, 236, 237, 15, 238, 239, 240, 241, 242, 50, 49, 243, 244, 245, 246, 57, 247, 56, 248, 249, 250, 251, 252, 253, 254, 58, 59, 60, 61, 62, 255, 256, 63, 64, 65, 257, 258, 259, 260, 261, 262, 263, 264, 887, 888, 889, 890, 891, 892, 893, 894, 895, 896, 897, 898, 922, 923, 924, 925, 926, 927, 928, 929, 930, 931, 932, 933, 934, 935, 936, 937] (by decide +kernel) (by decide +kernel)
set_option maxRecDepth 20000 in
theorem gL_law_X10_sun : GoodIn wsL_law (wsV RL 36 RX10 yX10_sun wsX10_sun) := goodIn_app (goodIn_of _ (by decide +kernel)) ggL_law_X10_sun
set_option maxRecDepth 20000 in
theorem ggL_law_X11_sun : GoodIn wsL_law wsX11_sun := goodIn_r _ [268, 269, 175, 270, 271, 272, 273, 274, 5, 275, 276, 277, 176, 177, 178, 278, 279, 280, 281, 132, 282, 283, 284, 285, 156, 196, 286, 287, 288, 151, 152, 153, 154, 155, 157, 289, 290, 291, 174, 292, 293, 294, 295, 296, 297, 298, 299, 300, 301, 197, 133, 302, 303, 304, 899, 900, 901, 902, 903, 904, 905, 906, 907, 908, 909, 910, 911, 912, 913, 914, 915, 916, 917, 918, 919, 920, 921] (by decide +kernel) (by decide +kernel)
set_option maxRecDepth 20000 in
theorem gL_law_X11_sun : GoodIn wsL_law (wsV RL 39 RX11 yX11_sun wsX11_sun) := goodIn_app (goodIn_of _ (by decide +kernel)) ggL_law_X11_sun
set_option maxRecDepth 20000 in
theorem ggL_law_X10_dial : GoodIn wsL_law wsX10_dial := goodIn_r _ [308, 309, 164, 310, 311, 312, 313, 314, 315, 2, 316, 317, 165, 166, 167, 318, 319, 320, 321, 322, 323, 324, 325, 326, 327, 328, 329, 330, 331, 332, 333, 334, 335, 336, 337, 338, 339, 340, 11, 12, 341, 342, 343, 344, 22, 18, 345, 346, 347, 21, 348, 72, 69, 71, 73, 349, 350, 351, 352, 353, 354, 253, 355, 973, 974, 975, 976, 977, 978, 979, 887, 888, 889, 890, 891, 892, 893, 894, 895, 896, 897, 898, 938, 939, 940, 941] (by decide +kernel) (by decide +kernel)
set_option maxRecDepth 20000 in
theorem gL_law_X10_dial : GoodIn wsL_law (wsV RL 40 RX10 yX10_dial wsX10_dial) := goodIn_app (goodIn_of _ (by decide +kernel)) ggL_law_X10_dial
set_option maxRecDepth 20000 in
theorem ggL_law_X11_dial : GoodIn wsL_law wsX11_dial := goodIn_r _ [359, 360, 361, 175, 362, 363, 364, 5, 365, 366, 176, 177, 178, 367, 368, 369, 370, 371, 372, 373, 374, 375, 142, 130, 131, 129, 376, 377, 378, 379, 899, 900, 901, 902, 903, 904, 905, 906, 907, 908, 909, 910, 911, 912, 913, 914, 915, 916, 917, 918, 919, 920, 921] (by decide +kernel) (by decide +kernel)
set_option maxRecDepth 20000 in
theorem gL_law_X11_dial : GoodIn wsL_law (wsV RL 44 RX11 yX11_dial wsX11_dial) := goodIn_app (goodIn_of _ (by decide +kernel)) ggL_law_X11_dial
