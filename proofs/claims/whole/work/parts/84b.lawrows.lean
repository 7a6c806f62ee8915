set_option maxRecDepth 20000 in
theorem ggL_law_X10_house : GoodIn wsL_law wsX10_house := goodIn_r _ [383, 326, 164, 384, 385, 386, 387, 388, 314, 315, 2, 316, 317, 165, 166, 167, 322, 323, 324, 325, 389, 390, 391, 392, 393, 394, 395, 396, 337, 338, 339, 340, 11, 12, 341, 342, 343, 344, 22, 18, 345, 346, 347, 21, 348, 72, 69, 71, 73, 349, 350, 351, 352, 353, 354, 253, 355, 980, 981, 982, 983, 984, 887, 888, 889, 890, 891, 892, 893, 894, 895, 896, 897, 898, 938, 939, 940, 941] (by decide +kernel) (by decide +kernel)
set_option maxRecDepth 20000 in
theorem gL_law_X10_house : GoodIn wsL_law (wsV RL 47 RX10 yX10_house wsX10_house) := goodIn_app (goodIn_of _ (by decide +kernel)) ggL_law_X10_house
set_option maxRecDepth 20000 in
theorem ggL_law_X11_house : GoodIn wsL_law wsX11_house := goodIn_r _ [400, 401, 371, 175, 155, 363, 364, 5, 365, 366, 176, 177, 178, 367, 368, 369, 370, 372, 373, 374, 375, 142, 130, 131, 129, 376, 377, 378, 379, 899, 900, 901, 902, 903, 904, 905, 906, 907, 908, 909, 910, 911, 912, 913, 914, 915, 916, 917, 918, 919, 920, 921] (by decide +kernel) (by decide +kernel)
set_option maxRecDepth 20000 in
theorem gL_law_X11_house : GoodIn wsL_law (wsV RL 51 RX11 yX11_house wsX11_house) := goodIn_app (goodIn_of _ (by decide +kernel)) ggL_law_X11_house
set_option maxRecDepth 20000 in
theorem ggL_law_X10_drop : GoodIn wsL_law wsX10_drop := goodIn_r _ [405, 164, 18, 406, 314, 315, 2, 316, 317, 165, 166, 167, 341, 342, 343, 344, 22, 345, 346, 347, 21, 348, 72, 69, 71, 73, 349, 350, 351, 352, 353, 354, 253, 355, 887, 888, 889, 890, 891, 892, 893, 894, 895, 896, 897, 898, 938, 939, 940, 941] (by decide +kernel) (by decide +kernel)
set_option maxRecDepth 20000 in
theorem gL_law_X10_drop : GoodIn wsL_law (wsV RL 52 RX10 yX10_drop wsX10_drop) := goodIn_app (goodIn_of _ (by decide +kernel)) ggL_law_X10_drop
set_option maxRecDepth 20000 in
theorem ggL_law_X11_drop : GoodIn wsL_law wsX11_drop := goodIn_r _ [410, 175, 411, 363, 364, 5, 365, 366, 176, 177, 178, 412, 413, 414, 415, 129, 372, 373, 374, 375, 142, 130, 131, 376, 377, 378, 379, 899, 900, 901, 902, 903, 904, 905, 906, 907, 908, 909, 910, 911, 912, 913, 914, 915, 916, 917, 918, 919, 920, 921] (by decide +kernel) (by decide +kernel)
set_option maxRecDepth 20000 in
theorem gL_law_X11_drop : GoodIn wsL_law (wsV RL 55 RX11 yX11_drop wsX11_drop) := goodIn_app (goodIn_of _ (by decide +kernel)) ggL_law_X11_drop
set_option maxRecDepth 20000 in
theorem ggL_law_X10_move : GoodIn wsL_law wsX10_move := goodIn_r _ [419, 164, 406, 314, 315, 2, 316, 317, 165, 166, 167, 322, 323, 324, 325, 326, 420, 421, 422, 423, 18, 424, 425, 426, 427, 312, 428, 330, 319, 320, 321, 429, 430, 431, 432, 433, 311, 333, 334, 335, 336, 434, 328, 329, 331, 332, 337, 338, 339, 340, 11, 12, 341, 342, 343, 344, 22, 345, 346, 347, 21, 348, 72, 69, 71, 73, 349, 350, 351, 352, 353, 354, 253, 355, 887, 888, 889, 890, 891, 892, 893, 894, 895, 896, 897, 898, 973, 974, 975, 976, 977, 978, 979, 938, 939, 940, 941] (by decide +kernel) (by decide +kernel)
set_option maxRecDepth 20000 in
theorem gL_law_X10_move : GoodIn wsL_law (wsV RL 56 RX10 yX10_move wsX10_move) := goodIn_app (goodIn_of _ (by decide +kernel)) ggL_law_X10_move
set_option maxRecDepth 20000 in
theorem ggL_law_X11_move : GoodIn wsL_law wsX11_move := goodIn_r _ [438, 175, 411, 363, 364, 5, 365, 366, 176, 177, 178, 367, 368, 369, 370, 371, 439, 440, 441, 442, 412, 413, 414, 415, 129, 372, 373, 374, 375, 142, 130, 131, 376, 377, 378, 379, 899, 900, 901, 902, 903, 904, 905, 906, 907, 908, 909, 910, 911, 912, 913, 914, 915, 916, 917, 918, 919, 920, 921] (by decide +kernel) (by decide +kernel)
set_option maxRecDepth 20000 in
theorem gL_law_X11_move : GoodIn wsL_law (wsV RL 59 RX11 yX11_move wsX11_move) := goodIn_app (goodIn_of _ (by decide +kernel)) ggL_law_X11_move
set_option maxRecDepth 20000 in
theorem ggL_law_X10_face : GoodIn wsL_law wsX10_face := goodIn_r _ [446, 447, 164, 406, 314, 315, 2, 316, 317, 165, 166, 167, 420, 421, 422, 423, 18, 424, 425, 426, 427, 312, 428, 330, 319, 320, 321, 448, 449, 450, 451, 433, 311, 331, 332, 333, 335, 336, 434, 328, 329, 334, 337, 338, 339, 340, 11, 12, 341, 342, 343, 344, 22, 345, 346, 347, 21, 348, 72, 69, 71, 73, 349, 350, 351, 352, 353, 354, 253, 355, 973, 974, 975, 976, 977, 978, 979, 887, 888, 889, 890, 891, 892, 893, 894, 895, 896, 897, 898, 938, 939, 940, 941] (by decide +kernel) (by decide +kernel)
set_option maxRecDepth 20000 in
theorem gL_law_X10_face : GoodIn wsL_law (wsV RL 60 RX10 yX10_face wsX10_face) := goodIn_app (goodIn_of _ (by decide +kernel)) ggL_law_X10_face
set_option maxRecDepth 20000 in
theorem ggL_law_X11_face : GoodIn wsL_law wsX11_face := goodIn_r _ [455, 154, 175, 411, 363, 364, 5, 365, 366, 176, 177, 178, 456, 457, 458, 459, 412, 413, 414, 415, 129, 372, 373, 374, 375, 142, 130, 131, 376, 377, 378, 379, 899, 900, 901, 902, 903, 904, 905, 906, 907, 908, 909, 910, 911, 912, 913, 914, 915, 916, 917, 918, 919, 920, 921] (by decide +kernel) (by decide +kernel)
set_option maxRecDepth 20000 in
theorem gL_law_X11_face : GoodIn wsL_law (wsV RL 63 RX11 yX11_face wsX11_face) := goodIn_app (goodIn_of _ (by decide +kernel)) ggL_law_X11_face
set_option maxRecDepth 20000 in
theorem ggL_law_X10_tilt : GoodIn wsL_law wsX10_tilt := goodIn_r _ [463, 163, 164, 406, 314, 315, 2, 316, 317, 165, 166, 167, 420, 421, 422, 423, 18, 424, 425, 426, 427, 312, 428, 330, 319, 320, 321, 464, 465, 466, 467, 433, 311, 331, 332, 333, 334, 336, 434, 328, 329, 335, 337, 338, 339, 340, 11, 12, 341, 342, 343, 344, 22, 345, 346, 347, 21, 348, 72, 69, 71, 73, 349, 350, 351, 352, 353, 354, 253, 355, 973, 974, 975, 976, 977, 978, 979, 887, 888, 889, 890, 891, 892, 893, 894, 895, 896, 897, 898, 938, 939, 940, 941] (by decide +kernel) (by decide +kernel)
set_option maxRecDepth 20000 in
theorem gL_law_X10_tilt : GoodIn wsL_law (wsV RL 64 RX10 yX10_tilt wsX10_tilt) := goodIn_app (goodIn_of _ (by decide +kernel)) ggL_law_X10_tilt
set_option maxRecDepth 20000 in
theorem ggL_law_X11_tilt : GoodIn wsL_law wsX11_tilt := goodIn_r _ [471, 174, 175, 411, 363, 364, 5, 365, 366, 176, 177, 178, 456, 457, 458, 459, 412, 413, 414, 415, 129, 372, 373, 374, 375, 142, 130, 131, 376, 377, 378, 379, 899, 900, 901, 902, 903, 904, 905, 906, 907, 908, 909, 910, 911, 912, 913, 914, 915, 916, 917, 918, 919, 920, 921] (by decide +kernel) (by decide +kernel)
set_option maxRecDepth 20000 in
theorem gL_law_X11_tilt : GoodIn wsL_law (wsV RL 67 RX11 yX11_tilt wsX11_tilt) := goodIn_app (goodIn_of _ (by decide +kernel)) ggL_law_X11_tilt
set_option maxRecDepth 20000 in
theorem ggL_law_X10_left : GoodIn wsL_law wsX10_left := goodIn_r _ [475, 164, 406, 314, 315, 2, 316, 317, 165, 166, 167, 476, 477, 478, 479, 420, 421, 422, 423, 18, 424, 425, 426, 427, 312, 428, 330, 319, 320, 321, 480, 481, 482, 483, 433, 311, 331, 332, 333, 334, 335, 336, 434, 328, 329, 337, 338, 339, 340, 11, 12, 341, 342, 343, 344, 22, 345, 346, 347, 21, 348, 72, 69, 71, 73, 349, 350, 351, 352, 353, 354, 253, 355, 484, 485, 486, 487, 887, 888, 889, 890, 891, 892, 893, 894, 895, 896, 897, 898, 973, 974, 975, 976, 977, 978, 979, 938, 939, 940, 941] (by decide +kernel) (by decide +kernel)
set_option maxRecDepth 20000 in
theorem gL_law_X10_left : GoodIn wsL_law (wsV RL 68 RX10 yX10_left wsX10_left) := goodIn_app (goodIn_of _ (by decide +kernel)) ggL_law_X10_left
set_option maxRecDepth 20000 in
theorem ggL_law_X11_left : GoodIn wsL_law wsX11_left := goodIn_r _ [491, 492, 175, 411, 363, 364, 5, 365, 366, 176, 177, 178, 456, 457, 458, 459, 412, 413, 414, 415, 129, 372, 373, 374, 375, 142, 130, 131, 376, 377, 378, 379, 899, 900, 901, 902, 903, 904, 905, 906, 907, 908, 909, 910, 911, 912, 913, 914, 915, 916, 917, 918, 919, 920, 921] (by decide +kernel) (by decide +kernel)
set_option maxRecDepth 20000 in
theorem gL_law_X11_left : GoodIn wsL_law (wsV RL 71 RX11 yX11_left wsX11_left) := goodIn_app (goodIn_of _ (by decide +kernel)) ggL_law_X11_left
set_option maxRecDepth 20000 in
theorem ggL_law_X10_holds : GoodIn wsL_law wsX10_holds := goodIn_r _ [496, 164, 18, 314, 315, 2, 316, 317, 165, 166, 167, 497, 498, 499, 500, 312, 501, 330, 502, 503, 388, 504, 887, 888, 889, 890, 891, 892, 893, 894, 895, 896, 897, 898, 973, 974, 975, 976, 977, 978, 979] (by decide +kernel) (by decide +kernel)
set_option maxRecDepth 20000 in
theorem gL_law_X10_holds : GoodIn wsL_law (wsV RL 72 RX10 yX10_holds wsX10_holds) := goodIn_app (goodIn_of _ (by decide +kernel)) ggL_law_X10_holds
set_option maxRecDepth 20000 in
theorem ggL_law_X11_holds : GoodIn wsL_law wsX11_holds := goodIn_r _ [508, 175, 363, 364, 5, 365, 366, 176, 177, 178, 412, 413, 414, 415, 129, 899, 900, 901, 902, 903, 904, 905, 906, 907, 908, 909, 910, 911, 912, 913, 914, 915, 916, 917, 918, 919, 920, 921] (by decide +kernel) (by decide +kernel)
set_option maxRecDepth 20000 in
theorem gL_law_X11_holds : GoodIn wsL_law (wsV RL 75 RX11 yX11_holds wsX11_holds) := goodIn_app (goodIn_of _ (by decide +kernel)) ggL_law_X11_holds
set_option maxRecDepth 20000 in
theorem ggL_law_X10_isOf : GoodIn wsL_law wsX10_isOf := goodIn_r _ [512, 164, 314, 315, 2, 316, 317, 165, 166, 167, 318, 319, 320, 321, 420, 421, 422, 423, 18, 424, 425, 426, 427, 312, 428, 330, 887, 888, 889, 890, 891, 892, 893, 894, 895, 896, 897, 898, 973, 974, 975, 976, 977, 978, 979] (by decide +kernel) (by decide +kernel)
set_option maxRecDepth 20000 in
theorem gL_law_X10_isOf : GoodIn wsL_law (wsV RL 76 RX10 yX10_isOf wsX10_isOf) := goodIn_app (goodIn_of _ (by decide +kernel)) ggL_law_X10_isOf
set_option maxRecDepth 20000 in
theorem ggL_law_X11_isOf : GoodIn wsL_law wsX11_isOf := goodIn_r _ [516, 360, 175, 363, 364, 5, 365, 366, 176, 177, 178, 456, 457, 458, 459, 412, 413, 414, 415, 129, 899, 900, 901, 902, 903, 904, 905, 906, 907, 908, 909, 910, 911, 912, 913, 914, 915, 916, 917, 918, 919, 920, 921] (by decide +kernel) (by decide +kernel)
set_option maxRecDepth 20000 in
theorem gL_law_X11_isOf : GoodIn wsL_law (wsV RL 79 RX11 yX11_isOf wsX11_isOf) := goodIn_app (goodIn_of _ (by decide +kernel)) ggL_law_X11_isOf
