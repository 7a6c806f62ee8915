set_option maxRecDepth 20000 in
theorem ggL_law_X10_house : GoodIn wsL_law wsX10_house := goodIn_r _ [385, 328, 166, 386, 387, 388, 389, 390, 316, 317, 2, 318, 319, 167, 168, 169, 324, 325, 326, 327, 391, 392, 393, 394, 395, 396, 397, 398, 339, 340, 341, 342, 11, 12, 343, 344, 345, 346, 22, 18, 347, 348, 349, 21, 350, 72, 69, 71, 73, 351, 352, 353, 354, 355, 356, 255, 357, 983, 984, 985, 986, 987, 889, 890, 891, 892, 893, 894, 895, 896, 897, 898, 899, 900, 940, 941, 942, 943] (by decide +kernel) (by decide +kernel)
set_option maxRecDepth 20000 in
theorem gL_law_X10_house : GoodIn wsL_law (wsV RL 47 RX10 yX10_house wsX10_house) := goodIn_app (goodIn_of _ (by decide +kernel)) ggL_law_X10_house
set_option maxRecDepth 20000 in
theorem ggL_law_X11_house : GoodIn wsL_law wsX11_house := goodIn_r _ [402, 403, 373, 177, 157, 365, 366, 5, 367, 368, 178, 179, 180, 369, 370, 371, 372, 374, 375, 376, 377, 144, 132, 133, 131, 378, 379, 380, 381, 901, 902, 903, 904, 905, 906, 907, 908, 909, 910, 911, 912, 913, 914, 915, 916, 917, 918, 919, 920, 921, 922, 923] (by decide +kernel) (by decide +kernel)
set_option maxRecDepth 20000 in
theorem gL_law_X11_house : GoodIn wsL_law (wsV RL 51 RX11 yX11_house wsX11_house) := goodIn_app (goodIn_of _ (by decide +kernel)) ggL_law_X11_house
set_option maxRecDepth 20000 in
theorem ggL_law_X10_drop : GoodIn wsL_law wsX10_drop := goodIn_r _ [407, 166, 18, 408, 316, 317, 2, 318, 319, 167, 168, 169, 343, 344, 345, 346, 22, 347, 348, 349, 21, 350, 72, 69, 71, 73, 351, 352, 353, 354, 355, 356, 255, 357, 889, 890, 891, 892, 893, 894, 895, 896, 897, 898, 899, 900, 940, 941, 942, 943] (by decide +kernel) (by decide +kernel)
set_option maxRecDepth 20000 in
theorem gL_law_X10_drop : GoodIn wsL_law (wsV RL 52 RX10 yX10_drop wsX10_drop) := goodIn_app (goodIn_of _ (by decide +kernel)) ggL_law_X10_drop
set_option maxRecDepth 20000 in
theorem ggL_law_X11_drop : GoodIn wsL_law wsX11_drop := goodIn_r _ [412, 177, 413, 365, 366, 5, 367, 368, 178, 179, 180, 414, 415, 416, 417, 131, 374, 375, 376, 377, 144, 132, 133, 378, 379, 380, 381, 901, 902, 903, 904, 905, 906, 907, 908, 909, 910, 911, 912, 913, 914, 915, 916, 917, 918, 919, 920, 921, 922, 923] (by decide +kernel) (by decide +kernel)
set_option maxRecDepth 20000 in
theorem gL_law_X11_drop : GoodIn wsL_law (wsV RL 55 RX11 yX11_drop wsX11_drop) := goodIn_app (goodIn_of _ (by decide +kernel)) ggL_law_X11_drop
set_option maxRecDepth 20000 in
theorem ggL_law_X10_move : GoodIn wsL_law wsX10_move := goodIn_r _ [421, 166, 408, 316, 317, 2, 318, 319, 167, 168, 169, 324, 325, 326, 327, 328, 422, 423, 424, 425, 18, 426, 427, 428, 429, 314, 430, 332, 321, 322, 323, 431, 432, 433, 434, 435, 313, 335, 336, 337, 338, 436, 330, 331, 333, 334, 339, 340, 341, 342, 11, 12, 343, 344, 345, 346, 22, 347, 348, 349, 21, 350, 72, 69, 71, 73, 351, 352, 353, 354, 355, 356, 255, 357, 889, 890, 891, 892, 893, 894, 895, 896, 897, 898, 899, 900, 976, 977, 978, 979, 980, 981, 982, 940, 941, 942, 943] (by decide +kernel) (by decide +kernel)
set_option maxRecDepth 20000 in
theorem gL_law_X10_move : GoodIn wsL_law (wsV RL 56 RX10 yX10_move wsX10_move) := goodIn_app (goodIn_of _ (by decide +kernel)) ggL_law_X10_move
set_option maxRecDepth 20000 in
theorem ggL_law_X11_move : GoodIn wsL_law wsX11_move := goodIn_r _ [440, 177, 413, 365, 366, 5, 367, 368, 178, 179, 180, 369, 370, 371, 372, 373, 441, 442, 443, 444, 414, 415, 416, 417, 131, 374, 375, 376, 377, 144, 132, 133, 378, 379, 380, 381, 901, 902, 903, 904, 905, 906, 907, 908, 909, 910, 911, 912, 913, 914, 915, 916, 917, 918, 919, 920, 921, 922, 923] (by decide +kernel) (by decide +kernel)
set_option maxRecDepth 20000 in
theorem gL_law_X11_move : GoodIn wsL_law (wsV RL 59 RX11 yX11_move wsX11_move) := goodIn_app (goodIn_of _ (by decide +kernel)) ggL_law_X11_move
set_option maxRecDepth 20000 in
theorem ggL_law_X10_face : GoodIn wsL_law wsX10_face := goodIn_r _ [448, 449, 166, 408, 316, 317, 2, 318, 319, 167, 168, 169, 422, 423, 424, 425, 18, 426, 427, 428, 429, 314, 430, 332, 321, 322, 323, 450, 451, 452, 453, 435, 313, 333, 334, 335, 337, 338, 436, 330, 331, 336, 339, 340, 341, 342, 11, 12, 343, 344, 345, 346, 22, 347, 348, 349, 21, 350, 72, 69, 71, 73, 351, 352, 353, 354, 355, 356, 255, 357, 976, 977, 978, 979, 980, 981, 982, 889, 890, 891, 892, 893, 894, 895, 896, 897, 898, 899, 900, 940, 941, 942, 943] (by decide +kernel) (by decide +kernel)
set_option maxRecDepth 20000 in
theorem gL_law_X10_face : GoodIn wsL_law (wsV RL 60 RX10 yX10_face wsX10_face) := goodIn_app (goodIn_of _ (by decide +kernel)) ggL_law_X10_face
set_option maxRecDepth 20000 in
theorem ggL_law_X11_face : GoodIn wsL_law wsX11_face := goodIn_r _ [457, 156, 177, 413, 365, 366, 5, 367, 368, 178, 179, 180, 458, 459, 460, 461, 414, 415, 416, 417, 131, 374, 375, 376, 377, 144, 132, 133, 378, 379, 380, 381, 901, 902, 903, 904, 905, 906, 907, 908, 909, 910, 911, 912, 913, 914, 915, 916, 917, 918, 919, 920, 921, 922, 923] (by decide +kernel) (by decide +kernel)
set_option maxRecDepth 20000 in
theorem gL_law_X11_face : GoodIn wsL_law (wsV RL 63 RX11 yX11_face wsX11_face) := goodIn_app (goodIn_of _ (by decide +kernel)) ggL_law_X11_face
set_option maxRecDepth 20000 in
theorem ggL_law_X10_tilt : GoodIn wsL_law wsX10_tilt := goodIn_r _ [465, 165, 166, 408, 316, 317, 2, 318, 319, 167, 168, 169, 422, 423, 424, 425, 18, 426, 427, 428, 429, 314, 430, 332, 321, 322, 323, 466, 467, 468, 469, 435, 313, 333, 334, 335, 336, 338, 436, 330, 331, 337, 339, 340, 341, 342, 11, 12, 343, 344, 345, 346, 22, 347, 348, 349, 21, 350, 72, 69, 71, 73, 351, 352, 353, 354, 355, 356, 255, 357, 976, 977, 978, 979, 980, 981, 982, 889, 890, 891, 892, 893, 894, 895, 896, 897, 898, 899, 900, 940, 941, 942, 943] (by decide +kernel) (by decide +kernel)
set_option maxRecDepth 20000 in
theorem gL_law_X10_tilt : GoodIn wsL_law (wsV RL 64 RX10 yX10_tilt wsX10_tilt) := goodIn_app (goodIn_of _ (by decide +kernel)) ggL_law_X10_tilt
set_option maxRecDepth 20000 in
theorem ggL_law_X11_tilt : GoodIn wsL_law wsX11_tilt := goodIn_r _ [473, 176, 177, 413, 365, 366, 5, 367, 368, 178, 179, 180, 458, 459, 460, 461, 414, 415, 416, 417, 131, 374, 375, 376, 377, 144, 132, 133, 378, 379, 380, 381, 901, 902, 903, 904, 905, 906, 907, 908, 909, 910, 911, 912, 913, 914, 915, 916, 917, 918, 919, 920, 921, 922, 923] (by decide +kernel) (by decide +kernel)
set_option maxRecDepth 20000 in
theorem gL_law_X11_tilt : GoodIn wsL_law (wsV RL 67 RX11 yX11_tilt wsX11_tilt) := goodIn_app (goodIn_of _ (by decide +kernel)) ggL_law_X11_tilt
set_option maxRecDepth 20000 in
theorem ggL_law_X10_left : GoodIn wsL_law wsX10_left := goodIn_r _ [477, 166, 408, 316, 317, 2, 318, 319, 167, 168, 169, 478, 479, 480, 481, 422, 423, 424, 425, 18, 426, 427, 428, 429, 314, 430, 332, 321, 322, 323, 482, 483, 484, 485, 435, 313, 333, 334, 335, 336, 337, 338, 436, 330, 331, 339, 340, 341, 342, 11, 12, 343, 344, 345, 346, 22, 347, 348, 349, 21, 350, 72, 69, 71, 73, 351, 352, 353, 354, 355, 356, 255, 357, 486, 487, 488, 489, 889, 890, 891, 892, 893, 894, 895, 896, 897, 898, 899, 900, 976, 977, 978, 979, 980, 981, 982, 940, 941, 942, 943] (by decide +kernel) (by decide +kernel)
set_option maxRecDepth 20000 in
theorem gL_law_X10_left : GoodIn wsL_law (wsV RL 68 RX10 yX10_left wsX10_left) := goodIn_app (goodIn_of _ (by decide +kernel)) ggL_law_X10_left
set_option maxRecDepth 20000 in
theorem ggL_law_X11_left : GoodIn wsL_law wsX11_left := goodIn_r _ [493, 494, 177, 413, 365, 366, 5, 367, 368, 178, 179, 180, 458, 459, 460, 461, 414, 415, 416, 417, 131, 374, 375, 376, 377, 144, 132, 133, 378, 379, 380, 381, 901, 902, 903, 904, 905, 906, 907, 908, 909, 910, 911, 912, 913, 914, 915, 916, 917, 918, 919, 920, 921, 922, 923] (by decide +kernel) (by decide +kernel)
set_option maxRecDepth 20000 in
theorem gL_law_X11_left : GoodIn wsL_law (wsV RL 71 RX11 yX11_left wsX11_left) := goodIn_app (goodIn_of _ (by decide +kernel)) ggL_law_X11_left
set_option maxRecDepth 20000 in
theorem ggL_law_X10_holds : GoodIn wsL_law wsX10_holds := goodIn_r _ [498, 166, 18, 316, 317, 2, 318, 319, 167, 168, 169, 499, 500, 501, 502, 314, 503, 332, 504, 505, 390, 506, 889, 890, 891, 892, 893, 894, 895, 896, 897, 898, 899, 900, 976, 977, 978, 979, 980, 981, 982] (by decide +kernel) (by decide +kernel)
set_option maxRecDepth 20000 in
theorem gL_law_X10_holds : GoodIn wsL_law (wsV RL 72 RX10 yX10_holds wsX10_holds) := goodIn_app (goodIn_of _ (by decide +kernel)) ggL_law_X10_holds
set_option maxRecDepth 20000 in
theorem ggL_law_X11_holds : GoodIn wsL_law wsX11_holds := goodIn_r _ [510, 177, 365, 366, 5, 367, 368, 178, 179, 180, 414, 415, 416, 417, 131, 901, 902, 903, 904, 905, 906, 907, 908, 909, 910, 911, 912, 913, 914, 915, 916, 917, 918, 919, 920, 921, 922, 923] (by decide +kernel) (by decide +kernel)
set_option maxRecDepth 20000 in
theorem gL_law_X11_holds : GoodIn wsL_law (wsV RL 75 RX11 yX11_holds wsX11_holds) := goodIn_app (goodIn_of _ (by decide +kernel)) ggL_law_X11_holds
set_option maxRecDepth 20000 in
theorem ggL_law_X10_isOf : GoodIn wsL_law wsX10_isOf := goodIn_r _ [514, 166, 316, 317, 2, 318, 319, 167, 168, 169, 320, 321, 322, 323, 422, 423, 424, 425, 18, 426, 427, 428, 429, 314, 430, 332, 889, 890, 891, 892, 893, 894, 895, 896, 897, 898, 899, 900, 976, 977, 978, 979, 980, 981, 982] (by decide +kernel) (by decide +kernel)
set_option maxRecDepth 20000 in
theorem gL_law_X10_isOf : GoodIn wsL_law (wsV RL 76 RX10 yX10_isOf wsX10_isOf) := goodIn_app (goodIn_of _ (by decide +kernel)) ggL_law_X10_isOf
set_option maxRecDepth 20000 in
theorem ggL_law_X11_isOf : GoodIn wsL_law wsX11_isOf := goodIn_r _ [518, 362, 177, 365, 366, 5, 367, 368, 178, 179, 180, 458, 459, 460, 461, 414, 415, 416, 417, 131, 901, 902, 903, 904, 905, 906, 907, 908, 909, 910, 911, 912, 913, 914, 915, 916, 917, 918, 919, 920, 921, 922, 923] (by decide +kernel) (by decide +kernel)
set_option maxRecDepth 20000 in
theorem gL_law_X11_isOf : GoodIn wsL_law (wsV RL 79 RX11 yX11_isOf wsX11_isOf) := goodIn_app (goodIn_of _ (by decide +kernel)) ggL_law_X11_isOf
