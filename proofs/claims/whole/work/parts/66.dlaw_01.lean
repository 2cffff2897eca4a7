set_option maxRecDepth 20000 in
theorem ggL_law_X6_init : GoodIn wsL_law wsX6_init := goodIn_ca (goodIn_r _ [10, 11, 12, 13, 14, 15, 16, 17, 18, 19, 20, 21, 22, 23, 24, 25, 26, 27, 28, 29, 30, 31, 32, 33, 34, 35, 36, 37, 38, 39, 40, 41, 42, 43, 44, 45, 46, 47, 48, 49, 50, 51, 6, 52, 53, 54, 55, 56, 57, 58, 59, 60, 61, 62, 63, 64, 65, 66, 67, 68, 69, 70, 71, 72, 73, 74, 75, 76, 77, 78, 79, 80, 81, 82, 83, 84, 85, 86, 87, 88, 89, 90, 91, 92, 93, 94, 95, 96, 97, 98, 99, 100, 101, 102, 103, 104, 105, 106, 107, 108, 109, 110, 111, 112, 113, 114, 115, 116, 117, 118, 897, 898, 899, 900, 901, 902, 903, 854, 855, 856, 857, 858, 859, 860, 861, 862, 904, 905, 906, 907, 908, 909, 910, 911, 912, 913, 914, 915, 916, 917, 918, 919, 920, 921, 922, 923, 924, 925, 926, 927, 928, 929, 930] (by decide +kernel) (by decide +kernel)) (goodIn_sub (fun _ h => List.mem_append_left _ (List.mem_append_left _ (List.mem_append_right _ h))) (by decide +kernel))
set_option maxRecDepth 20000 in
theorem gL_law_X6_init : GoodIn wsL_law (wsX6_init) := ggL_law_X6_init
set_option maxRecDepth 20000 in
theorem ggL_law_X7_init : GoodIn wsL_law wsX7_init := goodIn_ca (goodIn_r _ [121, 122, 12, 13, 47, 123, 6, 124, 125, 126, 127, 128, 129, 130, 131, 132, 133, 134, 135, 136, 137, 138, 139, 140, 141, 142, 143, 144, 145, 146, 147, 863, 864, 865, 866, 867, 868, 869, 870, 871, 872, 873, 874, 875, 876, 877, 878, 879, 880, 881, 882, 883, 884, 885, 886, 887, 888, 889, 890, 891, 892, 893, 894, 895, 896] (by decide +kernel) (by decide +kernel)) (goodIn_sub (fun _ h => List.mem_append_left _ (List.mem_append_left _ (List.mem_append_right _ h))) (by decide +kernel))
set_option maxRecDepth 20000 in
theorem gL_law_X7_init : GoodIn wsL_law (wsX7_init) := ggL_law_X7_init
set_option maxRecDepth 20000 in
theorem ggL_law_L_connector : GoodIn wsL_law wsL_connector := goodIn_ca (goodIn_ca (goodIn_r _ [151, 152, 153, 154, 155, 2, 156, 157, 17, 158, 159, 160, 161, 162, 163, 164, 165, 16, 166, 53, 48, 167, 168, 169, 170, 171, 52, 854, 855, 856, 857, 858, 859, 860, 861, 862, 897, 898, 899, 900, 901, 902, 903] (by decide +kernel) (by decide +kernel)) (goodIn_sub (fun _ h => List.mem_append_left _ (List.mem_append_left _ (List.mem_append_right _ h))) (by decide +kernel))) (goodIn_sub (fun _ h => List.mem_append_left _ (List.mem_append_right _ h)) (by decide +kernel))
set_option maxRecDepth 20000 in
theorem gL_law_L_connector : GoodIn wsL_law (va_wsS RL 76 yL_connector wsL_connector) := goodIn_app (goodIn_of _ (by decide +kernel)) ggL_law_L_connector
set_option maxRecDepth 20000 in
theorem ggL_law_X7_connector : GoodIn wsL_law wsX7_connector := goodIn_ca (goodIn_r _ [175, 176, 177, 178, 179, 5, 180, 181, 182, 183, 184, 185, 123, 863, 864, 865, 866, 867, 868, 869, 870, 871, 872, 873, 874, 875, 876, 877, 878, 879, 880, 881, 882, 883, 884, 885, 886, 887, 888, 889, 890, 891, 892, 893, 894, 895, 896] (by decide +kernel) (by decide +kernel)) (goodIn_sub (fun _ h => List.mem_append_left _ (List.mem_append_left _ (List.mem_append_right _ h))) (by decide +kernel))
set_option maxRecDepth 20000 in
theorem gL_law_X7_connector : GoodIn wsL_law (wsV RL 81 RX7 yX7_connector wsX7_connector) := goodIn_app (goodIn_of _ (by decide +kernel)) ggL_law_X7_connector
set_option maxRecDepth 20000 in
theorem ggL_law_X7_thrown : GoodIn wsL_law wsX7_thrown := goodIn_r _ [189, 177, 863, 864, 865, 866, 867, 868, 869, 870, 871, 872, 873, 874, 875, 876, 877, 878, 879, 880, 881, 882, 883, 884, 885, 886, 887, 888, 889, 890, 891, 892, 893, 894, 895, 896] (by decide +kernel) (by decide +kernel)
set_option maxRecDepth 20000 in
theorem gL_law_X7_thrown : GoodIn wsL_law (wsV RL 82 RX7 yX7_thrown wsX7_thrown) := goodIn_app (goodIn_of _ (by decide +kernel)) ggL_law_X7_thrown
set_option maxRecDepth 20000 in
theorem ggL_law_X6_node : GoodIn wsL_law wsX6_node := goodIn_ca (goodIn_r _ [193, 17, 163, 164, 165, 16, 166, 53, 48, 167, 168, 169, 170, 171, 52, 854, 855, 856, 857, 858, 859, 860, 861, 862, 897, 898, 899, 900, 901, 902, 903] (by decide +kernel) (by decide +kernel)) (goodIn_sub (fun _ h => List.mem_append_left _ (List.mem_append_left _ (List.mem_append_right _ h))) (by decide +kernel))
set_option maxRecDepth 20000 in
theorem gL_law_X6_node : GoodIn wsL_law (wsV RL 86 RX6 yX6_node wsX6_node) := goodIn_app (goodIn_of _ (by decide +kernel)) ggL_law_X6_node
set_option maxRecDepth 20000 in
theorem ggL_law_X7_node : GoodIn wsL_law wsX7_node := goodIn_ca (goodIn_r _ [197, 177, 181, 182, 183, 5, 184, 185, 123, 863, 864, 865, 866, 867, 868, 869, 870, 871, 872, 873, 874, 875, 876, 877, 878, 879, 880, 881, 882, 883, 884, 885, 886, 887, 888, 889, 890, 891, 892, 893, 894, 895, 896] (by decide +kernel) (by decide +kernel)) (goodIn_sub (fun _ h => List.mem_append_left _ (List.mem_append_left _ (List.mem_append_right _ h))) (by decide +kernel))
set_option maxRecDepth 20000 in
theorem gL_law_X7_node : GoodIn wsL_law (wsV RL 89 RX7 yX7_node wsX7_node) := goodIn_app (goodIn_of _ (by decide +kernel)) ggL_law_X7_node
set_option maxRecDepth 20000 in
theorem ggL_law_L_bundle : GoodIn wsL_law wsL_bundle := goodIn_ca (goodIn_ca (goodIn_ca (goodIn_r _ [200, 201, 152, 202, 203, 204, 2, 205, 17, 206, 207, 208, 209, 16, 210, 53, 211, 212, 213, 214, 215, 158, 159, 160, 161, 162, 216, 217, 218, 219, 167, 54, 49, 50, 51, 220, 221, 222, 223, 52, 224, 225, 226, 227, 228, 229, 230, 231, 232, 233, 168, 169, 170, 171, 854, 855, 856, 857, 858, 859, 860, 861, 862, 897, 898, 899, 900, 901, 902, 903] (by decide +kernel) (by decide +kernel)) (goodIn_sub (fun _ h => List.mem_append_left _ (List.mem_append_left _ (List.mem_append_right _ h))) (by decide +kernel))) (goodIn_sub (fun _ h => List.mem_append_right _ h) (by decide +kernel))) (goodIn_sub (fun _ h => List.mem_append_left _ (List.mem_append_right _ h)) (by decide +kernel))
set_option maxRecDepth 20000 in
theorem gL_law_L_bundle : GoodIn wsL_law (va_wsS RL 92 yL_bundle wsL_bundle) := goodIn_app (goodIn_of _ (by decide +kernel)) ggL_law_L_bundle
set_option maxRecDepth 20000 in
theorem ggL_law_X7_bundle : GoodIn wsL_law wsX7_bundle := goodIn_ca (goodIn_r _ [237, 238, 177, 124, 185, 125, 239, 126, 127, 240, 241, 242, 5, 243, 178, 179, 180, 863, 864, 865, 866, 867, 868, 869, 870, 871, 872, 873, 874, 875, 876, 877, 878, 879, 880, 881, 882, 883, 884, 885, 886, 887, 888, 889, 890, 891, 892, 893, 894, 895, 896] (by decide +kernel) (by decide +kernel)) (goodIn_sub (fun _ h => List.mem_append_left _ (List.mem_append_left _ (List.mem_append_right _ h))) (by decide +kernel))
set_option maxRecDepth 20000 in
theorem gL_law_X7_bundle : GoodIn wsL_law (wsV RL 95 RX7 yX7_bundle wsX7_bundle) := goodIn_app (goodIn_of _ (by decide +kernel)) ggL_law_X7_bundle
set_option maxRecDepth 20000 in
theorem ggL_law_L_wire : GoodIn wsL_law wsL_wire := goodIn_ca (goodIn_ca (goodIn_r _ [246, 201, 247, 248, 249, 2, 250, 21, 251, 252, 253, 254, 17, 207, 208, 209, 16, 210, 53, 211, 212, 213, 214, 215, 255, 256, 257, 258, 48, 259, 260, 261, 262, 263, 264, 20, 265, 63, 60, 58, 59, 61, 62, 266, 267, 268, 269, 270, 271, 272, 273, 274, 275, 276, 277, 278, 279, 280, 232, 233, 854, 855, 856, 857, 858, 859, 860, 861, 862, 897, 898, 899, 900, 901, 902, 903, 904, 905, 906, 907, 908, 909] (by decide +kernel) (by decide +kernel)) (goodIn_sub (fun _ h => List.mem_append_left _ (List.mem_append_left _ (List.mem_append_right _ h))) (by decide +kernel))) (goodIn_sub (fun _ h => List.mem_append_right _ h) (by decide +kernel))
set_option maxRecDepth 20000 in
theorem gL_law_L_wire : GoodIn wsL_law (va_wsS RL 96 yL_wire wsL_wire) := goodIn_app (goodIn_of _ (by decide +kernel)) ggL_law_L_wire
set_option maxRecDepth 20000 in
theorem ggL_law_X7_wire : GoodIn wsL_law wsX7_wire := goodIn_ca (goodIn_r _ [284, 177, 132, 285, 128, 129, 131, 286, 287, 288, 289, 5, 290, 123, 240, 241, 242, 243, 185, 863, 864, 865, 866, 867, 868, 869, 870, 871, 872, 873, 874, 875, 876, 877, 878, 879, 880, 881, 882, 883, 884, 885, 886, 887, 888, 889, 890, 891, 892, 893, 894, 895, 896] (by decide +kernel) (by decide +kernel)) (goodIn_sub (fun _ h => List.mem_append_left _ (List.mem_append_left _ (List.mem_append_right _ h))) (by decide +kernel))
set_option maxRecDepth 20000 in
theorem gL_law_X7_wire : GoodIn wsL_law (wsV RL 99 RX7 yX7_wire wsX7_wire) := goodIn_app (goodIn_of _ (by decide +kernel)) ggL_law_X7_wire
set_option maxRecDepth 20000 in
theorem ggL_law_L_load : GoodIn wsL_law wsL_load := goodIn_ca (goodIn_ca (goodIn_ca (goodIn_r _ [293, 201, 152, 294, 295, 296, 2, 297, 21, 298, 299, 300, 301, 20, 302, 63, 211, 212, 213, 214, 215, 158, 159, 160, 161, 162, 303, 304, 305, 306, 61, 62, 854, 855, 856, 857, 858, 859, 860, 861, 862, 904, 905, 906, 907, 908, 909] (by decide +kernel) (by decide +kernel)) (goodIn_sub (fun _ h => List.mem_append_left _ (List.mem_append_left _ (List.mem_append_right _ h))) (by decide +kernel))) (goodIn_sub (fun _ h => List.mem_append_right _ h) (by decide +kernel))) (goodIn_sub (fun _ h => List.mem_append_left _ (List.mem_append_right _ h)) (by decide +kernel))
set_option maxRecDepth 20000 in
theorem gL_law_L_load : GoodIn wsL_law (va_wsS RL 100 yL_load wsL_load) := goodIn_app (goodIn_of _ (by decide +kernel)) ggL_law_L_load
set_option maxRecDepth 20000 in
theorem ggL_law_X7_load : GoodIn wsL_law wsX7_load := goodIn_ca (goodIn_r _ [310, 286, 177, 130, 131, 311, 312, 313, 5, 314, 285, 178, 179, 180, 863, 864, 865, 866, 867, 868, 869, 870, 871, 872, 873, 874, 875, 876, 877, 878, 879, 880, 881, 882, 883, 884, 885, 886, 887, 888, 889, 890, 891, 892, 893, 894, 895, 896] (by decide +kernel) (by decide +kernel)) (goodIn_sub (fun _ h => List.mem_append_left _ (List.mem_append_left _ (List.mem_append_right _ h))) (by decide +kernel))
set_option maxRecDepth 20000 in
theorem gL_law_X7_load : GoodIn wsL_law (wsV RL 103 RX7 yX7_load wsX7_load) := goodIn_app (goodIn_of _ (by decide +kernel)) ggL_law_X7_load
set_option maxRecDepth 20000 in
theorem ggL_law_L_gauge : GoodIn wsL_law wsL_gauge := goodIn_ca (goodIn_ca (goodIn_r _ [317, 201, 318, 319, 320, 2, 321, 21, 322, 25, 299, 300, 301, 20, 302, 63, 211, 212, 213, 214, 215, 323, 324, 325, 326, 17, 42, 43, 327, 328, 329, 330, 58, 331, 271, 272, 332, 333, 334, 335, 59, 336, 221, 222, 16, 223, 52, 337, 338, 339, 340, 61, 341, 342, 343, 344, 62, 345, 346, 347, 24, 348, 349, 67, 350, 351, 352, 353, 68, 69, 354, 854, 855, 856, 857, 858, 859, 860, 861, 862, 904, 905, 906, 907, 908, 909, 897, 898, 899, 900, 901, 902, 903, 910, 911, 912] (by decide +kernel) (by decide +kernel)) (goodIn_sub (fun _ h => List.mem_append_left _ (List.mem_append_left _ (List.mem_append_right _ h))) (by decide +kernel))) (goodIn_sub (fun _ h => List.mem_append_right _ h) (by decide +kernel))
set_option maxRecDepth 20000 in
theorem gL_law_L_gauge : GoodIn wsL_law (va_wsS RL 104 yL_gauge wsL_gauge) := goodIn_app (goodIn_of _ (by decide +kernel)) ggL_law_L_gauge
set_option maxRecDepth 20000 in
theorem ggL_law_X7_gauge : GoodIn wsL_law wsX7_gauge := goodIn_ca (goodIn_r _ [358, 177, 135, 137, 130, 138, 131, 359, 136, 311, 312, 313, 5, 314, 285, 360, 361, 362, 363, 124, 128, 129, 147, 364, 133, 863, 864, 865, 866, 867, 868, 869, 870, 871, 872, 873, 874, 875, 876, 877, 878, 879, 880, 881, 882, 883, 884, 885, 886, 887, 888, 889, 890, 891, 892, 893, 894, 895, 896] (by decide +kernel) (by decide +kernel)) (goodIn_sub (fun _ h => List.mem_append_left _ (List.mem_append_left _ (List.mem_append_right _ h))) (by decide +kernel))
set_option maxRecDepth 20000 in
theorem gL_law_X7_gauge : GoodIn wsL_law (wsV RL 106 RX7 yX7_gauge wsX7_gauge) := goodIn_app (goodIn_of _ (by decide +kernel)) ggL_law_X7_gauge
set_option maxRecDepth 20000 in
theorem ggL_law_L_table : GoodIn wsL_law wsL_table := goodIn_ca (goodIn_ca (goodIn_ca (goodIn_r _ [367, 201, 152, 368, 369, 370, 2, 371, 298, 25, 211, 212, 213, 214, 215, 158, 159, 160, 161, 162, 372, 373, 374, 24, 375, 67, 68, 69, 854, 855, 856, 857, 858, 859, 860, 861, 862, 910, 911, 912] (by decide +kernel) (by decide +kernel)) (goodIn_sub (fun _ h => List.mem_append_left _ (List.mem_append_left _ (List.mem_append_right _ h))) (by decide +kernel))) (goodIn_sub (fun _ h => List.mem_append_right _ h) (by decide +kernel))) (goodIn_sub (fun _ h => List.mem_append_left _ (List.mem_append_right _ h)) (by decide +kernel))
set_option maxRecDepth 20000 in
theorem gL_law_L_table : GoodIn wsL_law (va_wsS RL 107 yL_table wsL_table) := goodIn_app (goodIn_of _ (by decide +kernel)) ggL_law_L_table
set_option maxRecDepth 20000 in
theorem ggL_law_X7_table : GoodIn wsL_law wsX7_table := goodIn_ca (goodIn_r _ [379, 177, 135, 136, 137, 138, 380, 381, 5, 382, 286, 178, 179, 180, 863, 864, 865, 866, 867, 868, 869, 870, 871, 872, 873, 874, 875, 876, 877, 878, 879, 880, 881, 882, 883, 884, 885, 886, 887, 888, 889, 890, 891, 892, 893, 894, 895, 896] (by decide +kernel) (by decide +kernel)) (goodIn_sub (fun _ h => List.mem_append_left _ (List.mem_append_left _ (List.mem_append_right _ h))) (by decide +kernel))
set_option maxRecDepth 20000 in
theorem gL_law_X7_table : GoodIn wsL_law (wsV RL 110 RX7 yX7_table wsX7_table) := goodIn_app (goodIn_of _ (by decide +kernel)) ggL_law_X7_table
set_option maxRecDepth 20000 in
theorem ggL_law_L_length : GoodIn wsL_law wsL_length := goodIn_ca (goodIn_ca (goodIn_r _ [385, 201, 386, 387, 388, 2, 389, 21, 299, 300, 301, 20, 302, 63, 211, 212, 213, 214, 215, 323, 324, 325, 326, 17, 322, 42, 43, 327, 328, 329, 330, 58, 331, 271, 272, 332, 333, 334, 335, 59, 336, 221, 222, 16, 223, 52, 854, 855, 856, 857, 858, 859, 860, 861, 862, 904, 905, 906, 907, 908, 909, 897, 898, 899, 900, 901, 902, 903] (by decide +kernel) (by decide +kernel)) (goodIn_sub (fun _ h => List.mem_append_left _ (List.mem_append_left _ (List.mem_append_right _ h))) (by decide +kernel))) (goodIn_sub (fun _ h => List.mem_append_right _ h) (by decide +kernel))
set_option maxRecDepth 20000 in
theorem gL_law_L_length : GoodIn wsL_law (va_wsS RL 111 yL_length wsL_length) := goodIn_app (goodIn_of _ (by decide +kernel)) ggL_law_L_length
set_option maxRecDepth 20000 in
theorem ggL_law_X7_length : GoodIn wsL_law wsX7_length := goodIn_ca (goodIn_r _ [393, 177, 311, 312, 313, 5, 314, 285, 360, 361, 362, 363, 124, 128, 129, 147, 364, 133, 863, 864, 865, 866, 867, 868, 869, 870, 871, 872, 873, 874, 875, 876, 877, 878, 879, 880, 881, 882, 883, 884, 885, 886, 887, 888, 889, 890, 891, 892, 893, 894, 895, 896] (by decide +kernel) (by decide +kernel)) (goodIn_sub (fun _ h => List.mem_append_left _ (List.mem_append_left _ (List.mem_append_right _ h))) (by decide +kernel))
set_option maxRecDepth 20000 in
theorem gL_law_X7_length : GoodIn wsL_law (wsV RL 113 RX7 yX7_length wsX7_length) := goodIn_app (goodIn_of _ (by decide +kernel)) ggL_law_X7_length
set_option maxRecDepth 20000 in
theorem ggL_law_L_slack : GoodIn wsL_law wsL_slack := goodIn_ca (goodIn_ca (goodIn_r _ [396, 152, 397, 398, 399, 2, 400, 401, 42, 43, 158, 159, 160, 161, 162, 854, 855, 856, 857, 858, 859, 860, 861, 862] (by decide +kernel) (by decide +kernel)) (goodIn_sub (fun _ h => List.mem_append_left _ (List.mem_append_left _ (List.mem_append_right _ h))) (by decide +kernel))) (goodIn_sub (fun _ h => List.mem_append_left _ (List.mem_append_right _ h)) (by decide +kernel))
set_option maxRecDepth 20000 in
theorem gL_law_L_slack : GoodIn wsL_law (va_wsS RL 114 yL_slack wsL_slack) := goodIn_app (goodIn_of _ (by decide +kernel)) ggL_law_L_slack
set_option maxRecDepth 20000 in
theorem ggL_law_X7_slack : GoodIn wsL_law wsX7_slack := goodIn_r _ [405, 406, 177, 364, 133, 178, 179, 5, 180, 863, 864, 865, 866, 867, 868, 869, 870, 871, 872, 873, 874, 875, 876, 877, 878, 879, 880, 881, 882, 883, 884, 885, 886, 887, 888, 889, 890, 891, 892, 893, 894, 895, 896] (by decide +kernel) (by decide +kernel)
set_option maxRecDepth 20000 in
theorem gL_law_X7_slack : GoodIn wsL_law (wsV RL 117 RX7 yX7_slack wsX7_slack) := goodIn_app (goodIn_of _ (by decide +kernel)) ggL_law_X7_slack
set_option maxRecDepth 20000 in
theorem ggL_law_L_reel : GoodIn wsL_law wsL_reel := goodIn_ca (goodIn_ca (goodIn_r _ [409, 152, 410, 411, 412, 2, 413, 414, 29, 21, 322, 158, 159, 160, 161, 162, 415, 416, 417, 28, 418, 74, 77, 79, 82, 83, 84, 85, 419, 420, 421, 299, 300, 301, 20, 302, 63, 323, 324, 325, 326, 17, 42, 43, 327, 328, 329, 330, 58, 331, 271, 272, 332, 333, 334, 335, 59, 336, 221, 222, 16, 223, 52, 422, 423, 424, 425, 75, 76, 426, 427, 428, 429, 81, 430, 431, 432, 433, 80, 434, 435, 436, 437, 438, 439, 440, 441, 78, 442, 443, 444, 445, 446, 447, 448, 449, 450, 451, 452, 453, 454, 455, 456, 457, 458, 459, 460, 461, 462, 463, 464, 465, 854, 855, 856, 857, 858, 859, 860, 861, 862, 913, 914, 915, 916, 917, 918, 919, 920, 904, 905, 906, 907, 908, 909, 897, 898, 899, 900, 901, 902, 903] (by decide +kernel) (by decide +kernel)) (goodIn_sub (fun _ h => List.mem_append_left _ (List.mem_append_left _ (List.mem_append_right _ h))) (by decide +kernel))) (goodIn_sub (fun _ h => List.mem_append_left _ (List.mem_append_right _ h)) (by decide +kernel))
set_option maxRecDepth 20000 in
theorem gL_law_L_reel : GoodIn wsL_law (va_wsS RL 118 yL_reel wsL_reel) := goodIn_app (goodIn_of _ (by decide +kernel)) ggL_law_L_reel
set_option maxRecDepth 20000 in
theorem ggL_law_X7_reel : GoodIn wsL_law wsX7_reel := goodIn_ca (goodIn_r _ [469, 470, 177, 471, 144, 178, 179, 5, 180, 472, 473, 474, 475, 285, 139, 360, 361, 362, 363, 124, 128, 129, 147, 364, 133, 476, 477, 478, 479, 146, 480, 481, 482, 483, 145, 484, 485, 486, 487, 488, 489, 490, 491, 863, 864, 865, 866, 867, 868, 869, 870, 871, 872, 873, 874, 875, 876, 877, 878, 879, 880, 881, 882, 883, 884, 885, 886, 887, 888, 889, 890, 891, 892, 893, 894, 895, 896] (by decide +kernel) (by decide +kernel)) (goodIn_sub (fun _ h => List.mem_append_left _ (List.mem_append_left _ (List.mem_append_right _ h))) (by decide +kernel))
set_option maxRecDepth 20000 in
theorem gL_law_X7_reel : GoodIn wsL_law (wsV RL 121 RX7 yX7_reel wsX7_reel) := goodIn_app (goodIn_of _ (by decide +kernel)) ggL_law_X7_reel
set_option maxRecDepth 20000 in
theorem ggL_law_L_reelOf : GoodIn wsL_law wsL_reelOf := goodIn_ca (goodIn_ca (goodIn_r _ [494, 201, 495, 496, 497, 2, 498, 21, 29, 299, 300, 301, 20, 302, 63, 211, 212, 213, 214, 215, 499, 500, 501, 28, 502, 74, 854, 855, 856, 857, 858, 859, 860, 861, 862, 904, 905, 906, 907, 908, 909, 913, 914, 915, 916, 917, 918, 919, 920] (by decide +kernel) (by decide +kernel)) (goodIn_sub (fun _ h => List.mem_append_left _ (List.mem_append_left _ (List.mem_append_right _ h))) (by decide +kernel))) (goodIn_sub (fun _ h => List.mem_append_right _ h) (by decide +kernel))
set_option maxRecDepth 20000 in
theorem gL_law_L_reelOf : GoodIn wsL_law (va_wsS RL 122 yL_reelOf wsL_reelOf) := goodIn_app (goodIn_of _ (by decide +kernel)) ggL_law_L_reelOf
set_option maxRecDepth 20000 in
theorem ggL_law_X7_reelOf : GoodIn wsL_law wsX7_reelOf := goodIn_ca (goodIn_r _ [506, 177, 139, 311, 312, 313, 5, 314, 285, 863, 864, 865, 866, 867, 868, 869, 870, 871, 872, 873, 874, 875, 876, 877, 878, 879, 880, 881, 882, 883, 884, 885, 886, 887, 888, 889, 890, 891, 892, 893, 894, 895, 896] (by decide +kernel) (by decide +kernel)) (goodIn_sub (fun _ h => List.mem_append_left _ (List.mem_append_left _ (List.mem_append_right _ h))) (by decide +kernel))
set_option maxRecDepth 20000 in
theorem gL_law_X7_reelOf : GoodIn wsL_law (wsV RL 124 RX7 yX7_reelOf wsX7_reelOf) := goodIn_app (goodIn_of _ (by decide +kernel)) ggL_law_X7_reelOf
set_option maxRecDepth 20000 in
theorem ggL_law_L_splice : GoodIn wsL_law wsL_splice := goodIn_ca (goodIn_ca (goodIn_r _ [509, 201, 510, 511, 512, 2, 513, 21, 33, 299, 300, 301, 20, 302, 63, 211, 212, 213, 214, 215, 514, 515, 516, 32, 517, 92, 90, 91, 232, 233, 518, 519, 520, 521, 854, 855, 856, 857, 858, 859, 860, 861, 862, 904, 905, 906, 907, 908, 909, 921, 922, 923] (by decide +kernel) (by decide +kernel)) (goodIn_sub (fun _ h => List.mem_append_left _ (List.mem_append_left _ (List.mem_append_right _ h))) (by decide +kernel))) (goodIn_sub (fun _ h => List.mem_append_right _ h) (by decide +kernel))
set_option maxRecDepth 20000 in
theorem gL_law_L_splice : GoodIn wsL_law (va_wsS RL 125 yL_splice wsL_splice) := goodIn_app (goodIn_of _ (by decide +kernel)) ggL_law_L_splice
set_option maxRecDepth 20000 in
theorem ggL_law_X7_splice : GoodIn wsL_law wsX7_splice := goodIn_ca (goodIn_r _ [525, 177, 526, 140, 141, 311, 312, 313, 5, 314, 285, 863, 864, 865, 866, 867, 868, 869, 870, 871, 872, 873, 874, 875, 876, 877, 878, 879, 880, 881, 882, 883, 884, 885, 886, 887, 888, 889, 890, 891, 892, 893, 894, 895, 896] (by decide +kernel) (by decide +kernel)) (goodIn_sub (fun _ h => List.mem_append_left _ (List.mem_append_left _ (List.mem_append_right _ h))) (by decide +kernel))
set_option maxRecDepth 20000 in
theorem gL_law_X7_splice : GoodIn wsL_law (wsV RL 128 RX7 yX7_splice wsX7_splice) := goodIn_app (goodIn_of _ (by decide +kernel)) ggL_law_X7_splice
set_option maxRecDepth 20000 in
theorem ggL_law_L_joined : GoodIn wsL_law wsL_joined := goodIn_ca (goodIn_ca (goodIn_r _ [529, 201, 530, 531, 532, 2, 533, 21, 33, 251, 252, 253, 254, 17, 207, 208, 209, 16, 210, 53, 211, 212, 213, 214, 215, 255, 256, 257, 258, 48, 259, 260, 261, 534, 268, 269, 20, 270, 63, 58, 59, 535, 536, 537, 32, 538, 91, 854, 855, 856, 857, 858, 859, 860, 861, 862, 897, 898, 899, 900, 901, 902, 903, 904, 905, 906, 907, 908, 909, 921, 922, 923] (by decide +kernel) (by decide +kernel)) (goodIn_sub (fun _ h => List.mem_append_left _ (List.mem_append_left _ (List.mem_append_right _ h))) (by decide +kernel))) (goodIn_sub (fun _ h => List.mem_append_right _ h) (by decide +kernel))
set_option maxRecDepth 20000 in
theorem gL_law_L_joined : GoodIn wsL_law (va_wsS RL 129 yL_joined wsL_joined) := goodIn_app (goodIn_of _ (by decide +kernel)) ggL_law_L_joined
set_option maxRecDepth 20000 in
theorem ggL_law_X7_joined : GoodIn wsL_law wsX7_joined := goodIn_ca (goodIn_r _ [542, 177, 132, 285, 142, 526, 140, 141, 287, 288, 289, 5, 290, 123, 240, 241, 242, 243, 185, 863, 864, 865, 866, 867, 868, 869, 870, 871, 872, 873, 874, 875, 876, 877, 878, 879, 880, 881, 882, 883, 884, 885, 886, 887, 888, 889, 890, 891, 892, 893, 894, 895, 896] (by decide +kernel) (by decide +kernel)) (goodIn_sub (fun _ h => List.mem_append_left _ (List.mem_append_left _ (List.mem_append_right _ h))) (by decide +kernel))
set_option maxRecDepth 20000 in
theorem gL_law_X7_joined : GoodIn wsL_law (wsV RL 131 RX7 yX7_joined wsX7_joined) := goodIn_app (goodIn_of _ (by decide +kernel)) ggL_law_X7_joined
set_option maxRecDepth 20000 in
theorem ggL_law_L_colour : GoodIn wsL_law wsL_colour := goodIn_ca (goodIn_ca (goodIn_r _ [545, 201, 546, 547, 548, 2, 549, 21, 299, 300, 301, 20, 302, 63, 211, 212, 213, 214, 215, 550, 551, 552, 553, 60, 854, 855, 856, 857, 858, 859, 860, 861, 862, 904, 905, 906, 907, 908, 909] (by decide +kernel) (by decide +kernel)) (goodIn_sub (fun _ h => List.mem_append_left _ (List.mem_append_left _ (List.mem_append_right _ h))) (by decide +kernel))) (goodIn_sub (fun _ h => List.mem_append_right _ h) (by decide +kernel))
set_option maxRecDepth 20000 in
theorem gL_law_L_colour : GoodIn wsL_law (va_wsS RL 132 yL_colour wsL_colour) := goodIn_app (goodIn_of _ (by decide +kernel)) ggL_law_L_colour
set_option maxRecDepth 20000 in
theorem ggL_law_X7_colour : GoodIn wsL_law wsX7_colour := goodIn_ca (goodIn_r _ [557, 177, 142, 311, 312, 313, 5, 314, 285, 558, 559, 560, 561, 128, 129, 863, 864, 865, 866, 867, 868, 869, 870, 871, 872, 873, 874, 875, 876, 877, 878, 879, 880, 881, 882, 883, 884, 885, 886, 887, 888, 889, 890, 891, 892, 893, 894, 895, 896] (by decide +kernel) (by decide +kernel)) (goodIn_sub (fun _ h => List.mem_append_left _ (List.mem_append_left _ (List.mem_append_right _ h))) (by decide +kernel))
set_option maxRecDepth 20000 in
theorem gL_law_X7_colour : GoodIn wsL_law (wsV RL 134 RX7 yX7_colour wsX7_colour) := goodIn_app (goodIn_of _ (by decide +kernel)) ggL_law_X7_colour
set_option maxRecDepth 20000 in
theorem ggL_law_X6_variant : GoodIn wsL_law wsX6_variant := goodIn_r _ [565, 37, 566, 567, 568, 36, 569, 98, 854, 855, 856, 857, 858, 859, 860, 861, 862, 924, 925, 926] (by decide +kernel) (by decide +kernel)
set_option maxRecDepth 20000 in
theorem gL_law_X6_variant : GoodIn wsL_law (wsV RL 135 RX6 yX6_variant wsX6_variant) := goodIn_app (goodIn_of _ (by decide +kernel)) ggL_law_X6_variant
set_option maxRecDepth 20000 in
theorem ggL_law_X7_variant : GoodIn wsL_law wsX7_variant := goodIn_r _ [573, 177, 574, 863, 864, 865, 866, 867, 868, 869, 870, 871, 872, 873, 874, 875, 876, 877, 878, 879, 880, 881, 882, 883, 884, 885, 886, 887, 888, 889, 890, 891, 892, 893, 894, 895, 896] (by decide +kernel) (by decide +kernel)
set_option maxRecDepth 20000 in
theorem gL_law_X7_variant : GoodIn wsL_law (wsV RL 138 RX7 yX7_variant wsX7_variant) := goodIn_app (goodIn_of _ (by decide +kernel)) ggL_law_X7_variant
set_option maxRecDepth 20000 in
theorem ggL_law_L_has : GoodIn wsL_law wsL_has := goodIn_ca (goodIn_ca (goodIn_r _ [577, 201, 578, 579, 580, 2, 581, 37, 21, 582, 583, 584, 36, 585, 98, 211, 212, 213, 214, 215, 299, 300, 301, 20, 302, 63, 586, 587, 588, 589, 96, 97, 590, 591, 592, 593, 232, 233, 854, 855, 856, 857, 858, 859, 860, 861, 862, 924, 925, 926, 904, 905, 906, 907, 908, 909] (by decide +kernel) (by decide +kernel)) (goodIn_sub (fun _ h => List.mem_append_left _ (List.mem_append_left _ (List.mem_append_right _ h))) (by decide +kernel))) (goodIn_sub (fun _ h => List.mem_append_right _ h) (by decide +kernel))
set_option maxRecDepth 20000 in
theorem gL_law_L_has : GoodIn wsL_law (va_wsS RL 139 yL_has wsL_has) := goodIn_app (goodIn_of _ (by decide +kernel)) ggL_law_L_has
set_option maxRecDepth 20000 in
theorem ggL_law_X7_has : GoodIn wsL_law wsX7_has := goodIn_ca (goodIn_r _ [597, 574, 177, 143, 311, 312, 313, 5, 314, 285, 598, 599, 600, 601, 863, 864, 865, 866, 867, 868, 869, 870, 871, 872, 873, 874, 875, 876, 877, 878, 879, 880, 881, 882, 883, 884, 885, 886, 887, 888, 889, 890, 891, 892, 893, 894, 895, 896] (by decide +kernel) (by decide +kernel)) (goodIn_sub (fun _ h => List.mem_append_left _ (List.mem_append_left _ (List.mem_append_right _ h))) (by decide +kernel))
set_option maxRecDepth 20000 in
theorem gL_law_X7_has : GoodIn wsL_law (wsV RL 142 RX7 yX7_has wsX7_has) := goodIn_app (goodIn_of _ (by decide +kernel)) ggL_law_X7_has
set_option maxRecDepth 20000 in
theorem ggL_law_L_told : GoodIn wsL_law wsL_told := goodIn_ca (goodIn_ca (goodIn_r _ [604, 201, 605, 606, 607, 2, 608, 37, 21, 211, 212, 213, 214, 215, 299, 300, 301, 20, 302, 63, 609, 610, 611, 36, 612, 98, 590, 591, 592, 593, 96, 97, 232, 233, 327, 328, 329, 330, 58, 332, 333, 334, 335, 59, 854, 855, 856, 857, 858, 859, 860, 861, 862, 904, 905, 906, 907, 908, 909, 924, 925, 926] (by decide +kernel) (by decide +kernel)) (goodIn_sub (fun _ h => List.mem_append_left _ (List.mem_append_left _ (List.mem_append_right _ h))) (by decide +kernel))) (goodIn_sub (fun _ h => List.mem_append_right _ h) (by decide +kernel))
set_option maxRecDepth 20000 in
theorem gL_law_L_told : GoodIn wsL_law (va_wsS RL 143 yL_told wsL_told) := goodIn_app (goodIn_of _ (by decide +kernel)) ggL_law_L_told
set_option maxRecDepth 20000 in
theorem ggL_law_X7_told : GoodIn wsL_law wsX7_told := goodIn_ca (goodIn_r _ [616, 177, 285, 574, 128, 129, 598, 599, 600, 5, 601, 143, 863, 864, 865, 866, 867, 868, 869, 870, 871, 872, 873, 874, 875, 876, 877, 878, 879, 880, 881, 882, 883, 884, 885, 886, 887, 888, 889, 890, 891, 892, 893, 894, 895, 896] (by decide +kernel) (by decide +kernel)) (goodIn_sub (fun _ h => List.mem_append_left _ (List.mem_append_left _ (List.mem_append_right _ h))) (by decide +kernel))
set_option maxRecDepth 20000 in
theorem gL_law_X7_told : GoodIn wsL_law (wsV RL 145 RX7 yX7_told wsX7_told) := goodIn_app (goodIn_of _ (by decide +kernel)) ggL_law_X7_told
set_option maxRecDepth 20000 in
theorem ggL_law_L_command : GoodIn wsL_law wsL_command := goodIn_ca (goodIn_ca (goodIn_r _ [619, 201, 620, 621, 622, 2, 623, 17, 41, 624, 625, 626, 16, 627, 54, 211, 212, 213, 214, 215, 628, 629, 630, 631, 632, 633, 634, 635, 636, 637, 40, 638, 639, 640, 641, 642, 104, 643, 644, 645, 646, 647, 109, 648, 649, 650, 651, 652, 653, 110, 654, 655, 656, 657, 658, 659, 660, 661, 662, 663, 664, 447, 448, 449, 665, 666, 667, 668, 669, 670, 84, 671, 672, 673, 674, 675, 676, 677, 108, 678, 679, 680, 681, 682, 683, 684, 685, 686, 687, 688, 689, 107, 690, 691, 692, 693, 694, 695, 696, 697, 698, 699, 700, 39, 701, 702, 703, 704, 705, 113, 706, 707, 708, 709, 710, 711, 49, 712, 713, 714, 715, 255, 256, 257, 258, 48, 716, 717, 718, 719, 720, 721, 722, 723, 724, 725, 726, 727, 728, 729, 730, 731, 111, 112, 114, 115, 116, 117, 118, 732, 733, 734, 735, 736, 737, 738, 739, 740, 741, 742, 743, 744, 745, 746, 747, 748, 749, 750, 751, 752, 753, 754, 755, 756, 757, 758, 759, 760, 761, 762, 763, 764, 765, 766, 767, 768, 769, 770, 771, 772, 773, 774, 775, 776, 777, 778, 779, 780, 781, 782, 783, 784, 785, 786, 787, 788, 789, 790, 791, 792, 793, 794, 795, 796, 797, 798, 799, 800, 801, 802, 803, 804, 805, 806, 807, 808, 50, 809, 810, 811, 812, 51, 813, 814, 815, 816, 817, 818, 819, 820, 821, 822, 823, 824, 825, 826, 827, 828, 829, 830, 831, 832, 833, 854, 855, 856, 857, 858, 859, 860, 861, 862, 897, 898, 899, 900, 901, 902, 903, 931, 932, 933, 934, 935, 936, 927, 928, 929, 930, 937, 938, 939, 940, 941, 942] (by decide +kernel) (by decide +kernel)) (goodIn_sub (fun _ h => List.mem_append_left _ (List.mem_append_left _ (List.mem_append_right _ h))) (by decide +kernel))) (goodIn_sub (fun _ h => List.mem_append_right _ h) (by decide +kernel))
set_option maxRecDepth 20000 in
theorem gL_law_L_command : GoodIn wsL_law (va_wsS RL 146 yL_command wsL_command) := goodIn_app (goodIn_of _ (by decide +kernel)) ggL_law_L_command
set_option maxRecDepth 20000 in
theorem ggL_law_X7_command : GoodIn wsL_law wsX7_command := goodIn_ca (goodIn_r _ [837, 239, 177, 838, 839, 840, 125, 126, 127, 841, 842, 843, 5, 844, 123, 845, 846, 847, 848, 849, 850, 851, 852, 853, 863, 864, 865, 866, 867, 868, 869, 870, 871, 872, 873, 874, 875, 876, 877, 878, 879, 880, 881, 882, 883, 884, 885, 886, 887, 888, 889, 890, 891, 892, 893, 894, 895, 896] (by decide +kernel) (by decide +kernel)) (goodIn_sub (fun _ h => List.mem_append_left _ (List.mem_append_left _ (List.mem_append_right _ h))) (by decide +kernel))
set_option maxRecDepth 20000 in
theorem gL_law_X7_command : GoodIn wsL_law (wsV RL 148 RX7 yX7_command wsX7_command) := goodIn_app (goodIn_of _ (by decide +kernel)) ggL_law_X7_command
theorem dL_law_0 : decode cL_law 0 = .ok (.new 8, 3) := by decide +kernel
theorem dL_law_3 : decode cL_law 3 = .ok (.dup, 1) := by decide +kernel
theorem dL_law_4 : decode cL_law 4 = .ok (.invokespecial 72, 3) := by decide +kernel
theorem dL_law_7 : decode cL_law 7 = .ok (.astore_n 1, 1) := by decide +kernel
theorem dL_law_8 : decode cL_law 8 = .ok (.new 73, 3) := by decide +kernel
theorem dL_law_11 : decode cL_law 11 = .ok (.dup, 1) := by decide +kernel
theorem dL_law_12 : decode cL_law 12 = .ok (.invokespecial 75, 3) := by decide +kernel
theorem dL_law_15 : decode cL_law 15 = .ok (.astore_n 2, 1) := by decide +kernel
theorem dL_law_16 : decode cL_law 16 = .ok (.iconst 1, 1) := by decide +kernel
theorem dL_law_17 : decode cL_law 17 = .ok (.newarray .long, 2) := by decide +kernel
theorem dL_law_19 : decode cL_law 19 = .ok (.astore_n 3, 1) := by decide +kernel
theorem dL_law_20 : decode cL_law 20 = .ok (.iconst 0, 1) := by decide +kernel
theorem dL_law_21 : decode cL_law 21 = .ok (.istore 4, 2) := by decide +kernel
theorem dL_law_23 : decode cL_law 23 = .ok (.iload 4, 2) := by decide +kernel
theorem dL_law_25 : decode cL_law 25 = .ok (.aload_n 0, 1) := by decide +kernel
theorem dL_law_26 : decode cL_law 26 = .ok (.arraylength, 1) := by decide +kernel
theorem dL_law_27 : decode cL_law 27 = .ok (.bipush 8, 2) := by decide +kernel
theorem dL_law_29 : decode cL_law 29 = .ok (.isub, 1) := by decide +kernel
theorem dL_law_30 : decode cL_law 30 = .ok (.if_icmp .gt 1596, 3) := by decide +kernel
theorem dL_law_33 : decode cL_law 33 = .ok (.aload_n 0, 1) := by decide +kernel
theorem dL_law_34 : decode cL_law 34 = .ok (.iload 4, 2) := by decide +kernel
theorem dL_law_36 : decode cL_law 36 = .ok (.iaload, 1) := by decide +kernel
