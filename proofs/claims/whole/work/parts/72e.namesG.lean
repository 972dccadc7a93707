set_option maxRecDepth 20000 in
theorem ggL_law_X6_init : GoodIn wsL_law wsX6_init := goodIn_r _ [10, 11, 12, 13, 14, 15, 16, 17, 18, 19, 20, 21, 22, 23, 24, 25, 26, 27, 28, 29, 30, 31, 32, 33, 34, 35, 36, 37, 38, 39, 40, 41, 42, 43, 44, 45, 46, 47, 48, 49, 50, 51, 52, 53, 54, 55, 56, 57, 58, 59, 60, 61, 62, 63, 64, 65, 66, 67, 68, 69, 70, 71, 72, 73, 74, 75, 76, 6, 77, 78, 882, 883, 884, 860, 861, 862, 863, 885, 886, 887, 888, 889, 890, 891, 892, 893, 894, 895, 896, 897, 898, 899, 900, 901, 902, 903, 904, 905, 906, 907, 908, 909, 910, 911, 912, 913, 914, 915, 916, 917, 918, 919, 920] (by decide +kernel) (by decide +kernel)
set_option maxRecDepth 20000 in
theorem gL_law_X6_init : GoodIn wsL_law (wsX6_init) := ggL_law_X6_init
set_option maxRecDepth 20000 in
theorem ggL_law_X7_init : GoodIn wsL_law wsX7_init := goodIn_r _ [81, 82, 12, 13, 32, 83, 84, 85, 86, 87, 88, 89, 90, 91, 92, 93, 6, 94, 864, 865, 866, 867, 868, 869, 870, 871, 872, 873, 874, 875, 876, 877, 878, 879, 880, 881] (by decide +kernel) (by decide +kernel)
set_option maxRecDepth 20000 in
theorem gL_law_X7_init : GoodIn wsL_law (wsX7_init) := ggL_law_X7_init
set_option maxRecDepth 20000 in
theorem ggL_law_L_addRule : GoodIn wsL_law wsL_addRule := goodIn_ca (goodIn_ca (goodIn_ca (goodIn_r _ [98, 99, 100, 101, 102, 103, 104, 2, 105, 106, 107, 17, 25, 108, 109, 110, 111, 112, 113, 114, 115, 116, 117, 118, 119, 120, 16, 121, 122, 31, 123, 124, 125, 24, 126, 127, 128, 129, 130, 131, 132, 133, 134, 135, 136, 137, 138, 139, 140, 141, 142, 33, 143, 860, 861, 862, 863, 882, 883, 884, 887, 888, 889, 890, 891, 892, 893, 894, 895, 896, 897, 898, 899, 900, 901, 902, 903, 904, 905, 906, 907, 908, 909] (by decide +kernel) (by decide +kernel)) (goodIn_sub (fun _ h => List.mem_append_left _ (List.mem_append_left _ (List.mem_append_right _ h))) (by decide +kernel))) (goodIn_sub (fun _ h => List.mem_append_left _ (List.mem_append_right _ h)) (by decide +kernel))) (goodIn_sub (fun _ h => List.mem_append_right _ h) (by decide +kernel))
set_option maxRecDepth 20000 in
theorem gL_law_L_addRule : GoodIn wsL_law (va_wsS RL 100 yL_addRule wsL_addRule) := goodIn_app (goodIn_of _ (by decide +kernel)) ggL_law_L_addRule
set_option maxRecDepth 20000 in
theorem ggL_law_X7_addRule : GoodIn wsL_law wsX7_addRule := goodIn_r _ [147, 148, 149, 83, 84, 85, 86, 89, 90, 150, 151, 152, 5, 153, 154, 155, 156, 157, 158, 159, 160, 161, 162, 163, 864, 865, 866, 867, 868, 869, 870, 871, 872, 873, 874, 875, 876, 877, 878, 879, 880, 881] (by decide +kernel) (by decide +kernel)
set_option maxRecDepth 20000 in
theorem gL_law_X7_addRule : GoodIn wsL_law (wsV RL 105 RX7 yX7_addRule wsX7_addRule) := goodIn_app (goodIn_of _ (by decide +kernel)) ggL_law_X7_addRule
set_option maxRecDepth 20000 in
theorem ggL_law_X7_thrown : GoodIn wsL_law wsX7_thrown := goodIn_r _ [167, 148, 864, 865, 866, 867, 868, 869, 870, 871, 872, 873, 874, 875, 876, 877, 878, 879, 880, 881] (by decide +kernel) (by decide +kernel)
set_option maxRecDepth 20000 in
theorem gL_law_X7_thrown : GoodIn wsL_law (wsV RL 106 RX7 yX7_thrown wsX7_thrown) := goodIn_app (goodIn_of _ (by decide +kernel)) ggL_law_X7_thrown
set_option maxRecDepth 20000 in
theorem ggL_law_L_addAction : GoodIn wsL_law wsL_addAction := goodIn_ca (goodIn_ca (goodIn_r _ [170, 99, 101, 171, 172, 173, 2, 174, 106, 107, 25, 175, 176, 177, 178, 179, 111, 112, 17, 180, 181, 182, 16, 183, 122, 31, 108, 109, 110, 184, 185, 186, 35, 187, 188, 40, 123, 124, 125, 24, 126, 127, 128, 129, 130, 189, 190, 191, 192, 193, 194, 860, 861, 862, 863, 899, 900, 901, 902, 903, 904, 905, 906, 907, 908, 909, 882, 883, 884, 887, 888, 889, 890, 891, 892, 893, 894, 895, 896, 897, 898] (by decide +kernel) (by decide +kernel)) (goodIn_sub (fun _ h => List.mem_append_left _ (List.mem_append_left _ (List.mem_append_right _ h))) (by decide +kernel))) (goodIn_sub (fun _ h => List.mem_append_left _ (List.mem_append_right _ h)) (by decide +kernel))
set_option maxRecDepth 20000 in
theorem gL_law_L_addAction : GoodIn wsL_law (va_wsS RL 109 yL_addAction wsL_addAction) := goodIn_app (goodIn_of _ (by decide +kernel)) ggL_law_L_addAction
set_option maxRecDepth 20000 in
theorem ggL_law_X7_addAction : GoodIn wsL_law wsX7_addAction := goodIn_r _ [198, 148, 86, 87, 150, 199, 200, 201, 5, 202, 149, 151, 152, 153, 154, 155, 156, 157, 161, 162, 163, 864, 865, 866, 867, 868, 869, 870, 871, 872, 873, 874, 875, 876, 877, 878, 879, 880, 881] (by decide +kernel) (by decide +kernel)
set_option maxRecDepth 20000 in
theorem gL_law_X7_addAction : GoodIn wsL_law (wsV RL 112 RX7 yX7_addAction wsX7_addAction) := goodIn_app (goodIn_of _ (by decide +kernel)) ggL_law_X7_addAction
set_option maxRecDepth 20000 in
theorem ggL_law_L_turn : GoodIn wsL_law wsL_turn := goodIn_ca (goodIn_r _ [205, 99, 206, 207, 208, 2, 209, 210, 25, 17, 211, 212, 176, 177, 178, 179, 111, 112, 180, 181, 182, 16, 183, 122, 31, 123, 124, 125, 24, 126, 127, 213, 139, 140, 141, 142, 135, 33, 143, 214, 215, 216, 217, 218, 219, 220, 221, 222, 899, 900, 901, 902, 903, 904, 905, 906, 907, 908, 909, 860, 861, 862, 863, 882, 883, 884, 887, 888, 889, 890, 891, 892, 893, 894, 895, 896, 897, 898] (by decide +kernel) (by decide +kernel)) (goodIn_sub (fun _ h => List.mem_append_left _ (List.mem_append_right _ h)) (by decide +kernel))
set_option maxRecDepth 20000 in
theorem gL_law_L_turn : GoodIn wsL_law (va_wsS RL 113 yL_turn wsL_turn) := goodIn_app (goodIn_of _ (by decide +kernel)) ggL_law_L_turn
set_option maxRecDepth 20000 in
theorem ggL_law_X7_turn : GoodIn wsL_law wsX7_turn := goodIn_r _ [226, 148, 89, 227, 150, 199, 200, 201, 5, 202, 149, 864, 865, 866, 867, 868, 869, 870, 871, 872, 873, 874, 875, 876, 877, 878, 879, 880, 881] (by decide +kernel) (by decide +kernel)
set_option maxRecDepth 20000 in
theorem gL_law_X7_turn : GoodIn wsL_law (wsV RL 116 RX7 yX7_turn wsX7_turn) := goodIn_app (goodIn_of _ (by decide +kernel)) ggL_law_X7_turn
set_option maxRecDepth 20000 in
theorem ggL_law_L_rank : GoodIn wsL_law wsL_rank := goodIn_ca (goodIn_ca (goodIn_r _ [230, 99, 100, 231, 232, 233, 2, 234, 116, 117, 25, 17, 176, 177, 178, 179, 111, 112, 180, 181, 182, 16, 183, 122, 31, 235, 236, 237, 35, 238, 239, 41, 123, 124, 125, 24, 126, 127, 240, 241, 242, 243, 244, 143, 245, 860, 861, 862, 863, 882, 883, 884, 899, 900, 901, 902, 903, 904, 905, 906, 907, 908, 909, 887, 888, 889, 890, 891, 892, 893, 894, 895, 896, 897, 898] (by decide +kernel) (by decide +kernel)) (goodIn_sub (fun _ h => List.mem_append_right _ h) (by decide +kernel))) (goodIn_sub (fun _ h => List.mem_append_left _ (List.mem_append_right _ h)) (by decide +kernel))
set_option maxRecDepth 20000 in
theorem gL_law_L_rank : GoodIn wsL_law (va_wsS RL 117 yL_rank wsL_rank) := goodIn_app (goodIn_of _ (by decide +kernel)) ggL_law_L_rank
set_option maxRecDepth 20000 in
theorem ggL_law_X7_rank : GoodIn wsL_law wsX7_rank := goodIn_r _ [249, 90, 148, 149, 150, 199, 200, 201, 5, 202, 250, 251, 252, 864, 865, 866, 867, 868, 869, 870, 871, 872, 873, 874, 875, 876, 877, 878, 879, 880, 881] (by decide +kernel) (by decide +kernel)
set_option maxRecDepth 20000 in
theorem gL_law_X7_rank : GoodIn wsL_law (wsV RL 120 RX7 yX7_rank wsX7_rank) := goodIn_app (goodIn_of _ (by decide +kernel)) ggL_law_X7_rank
set_option maxRecDepth 20000 in
theorem ggL_law_L_isAbove : GoodIn wsL_law wsL_isAbove := goodIn_ca (goodIn_r _ [255, 99, 256, 257, 258, 2, 259, 176, 177, 178, 179, 111, 112, 17, 180, 181, 182, 16, 183, 122, 31, 235, 236, 237, 35, 238, 239, 41, 860, 861, 862, 863, 882, 883, 884, 899, 900, 901, 902, 903, 904, 905, 906, 907, 908, 909] (by decide +kernel) (by decide +kernel)) (goodIn_sub (fun _ h => List.mem_append_left _ (List.mem_append_right _ h)) (by decide +kernel))
set_option maxRecDepth 20000 in
theorem gL_law_L_isAbove : GoodIn wsL_law (va_wsS RL 121 yL_isAbove wsL_isAbove) := goodIn_app (goodIn_of _ (by decide +kernel)) ggL_law_L_isAbove
set_option maxRecDepth 20000 in
theorem ggL_law_X7_isAbove : GoodIn wsL_law wsX7_isAbove := goodIn_r _ [263, 148, 90, 199, 200, 201, 5, 202, 149, 250, 251, 252, 864, 865, 866, 867, 868, 869, 870, 871, 872, 873, 874, 875, 876, 877, 878, 879, 880, 881] (by decide +kernel) (by decide +kernel)
set_option maxRecDepth 20000 in
theorem gL_law_X7_isAbove : GoodIn wsL_law (wsV RL 123 RX7 yX7_isAbove wsX7_isAbove) := goodIn_app (goodIn_of _ (by decide +kernel)) ggL_law_X7_isAbove
set_option maxRecDepth 20000 in
theorem ggL_law_X6_ruleCount : GoodIn wsL_law wsX6_ruleCount := goodIn_r _ [267, 17, 268, 269, 270, 16, 271, 122, 860, 861, 862, 863, 882, 883, 884] (by decide +kernel) (by decide +kernel)
set_option maxRecDepth 20000 in
theorem gL_law_X6_ruleCount : GoodIn wsL_law (wsV RL 124 RX6 yX6_ruleCount wsX6_ruleCount) := goodIn_app (goodIn_of _ (by decide +kernel)) ggL_law_X6_ruleCount
set_option maxRecDepth 20000 in
theorem ggL_law_X7_ruleCount : GoodIn wsL_law wsX7_ruleCount := goodIn_r _ [275, 148, 149, 864, 865, 866, 867, 868, 869, 870, 871, 872, 873, 874, 875, 876, 877, 878, 879, 880, 881] (by decide +kernel) (by decide +kernel)
set_option maxRecDepth 20000 in
theorem gL_law_X7_ruleCount : GoodIn wsL_law (wsV RL 127 RX7 yX7_ruleCount wsX7_ruleCount) := goodIn_app (goodIn_of _ (by decide +kernel)) ggL_law_X7_ruleCount
set_option maxRecDepth 20000 in
theorem ggL_law_L_put : GoodIn wsL_law wsL_put := goodIn_ca (goodIn_r _ [278, 100, 279, 280, 281, 2, 282, 211, 25, 113, 114, 115, 116, 117, 214, 215, 216, 123, 124, 125, 24, 126, 127, 220, 221, 222, 860, 861, 862, 863, 887, 888, 889, 890, 891, 892, 893, 894, 895, 896, 897, 898] (by decide +kernel) (by decide +kernel)) (goodIn_sub (fun _ h => List.mem_append_right _ h) (by decide +kernel))
set_option maxRecDepth 20000 in
theorem gL_law_L_put : GoodIn wsL_law (va_wsS RL 128 yL_put wsL_put) := goodIn_app (goodIn_of _ (by decide +kernel)) ggL_law_L_put
set_option maxRecDepth 20000 in
theorem ggL_law_X7_put : GoodIn wsL_law wsX7_put := goodIn_r _ [286, 148, 287, 227, 150, 158, 159, 5, 160, 154, 155, 156, 157, 864, 865, 866, 867, 868, 869, 870, 871, 872, 873, 874, 875, 876, 877, 878, 879, 880, 881] (by decide +kernel) (by decide +kernel)
set_option maxRecDepth 20000 in
theorem gL_law_X7_put : GoodIn wsL_law (wsV RL 131 RX7 yX7_put wsX7_put) := goodIn_app (goodIn_of _ (by decide +kernel)) ggL_law_X7_put
set_option maxRecDepth 20000 in
theorem ggL_law_L_change : GoodIn wsL_law wsL_change := goodIn_ca (goodIn_r _ [290, 99, 291, 292, 293, 2, 294, 25, 17, 211, 108, 109, 110, 111, 112, 123, 124, 125, 24, 126, 127, 128, 129, 130, 295, 296, 297, 16, 298, 218, 219, 299, 300, 301, 302, 33, 215, 216, 221, 222, 217, 860, 861, 862, 863, 887, 888, 889, 890, 891, 892, 893, 894, 895, 896, 897, 898, 882, 883, 884] (by decide +kernel) (by decide +kernel)) (goodIn_sub (fun _ h => List.mem_append_left _ (List.mem_append_right _ h)) (by decide +kernel))
set_option maxRecDepth 20000 in
theorem gL_law_L_change : GoodIn wsL_law (va_wsS RL 132 yL_change wsL_change) := goodIn_app (goodIn_of _ (by decide +kernel)) ggL_law_L_change
set_option maxRecDepth 20000 in
theorem ggL_law_X7_change : GoodIn wsL_law wsX7_change := goodIn_r _ [306, 148, 150, 227, 151, 152, 5, 153, 154, 155, 156, 157, 307, 308, 309, 310, 287, 161, 162, 163, 311, 312, 313, 314, 149, 89, 83, 315, 316, 317, 318, 319, 320, 321, 864, 865, 866, 867, 868, 869, 870, 871, 872, 873, 874, 875, 876, 877, 878, 879, 880, 881] (by decide +kernel) (by decide +kernel)
set_option maxRecDepth 20000 in
theorem gL_law_X7_change : GoodIn wsL_law (wsV RL 134 RX7 yX7_change wsX7_change) := goodIn_app (goodIn_of _ (by decide +kernel)) ggL_law_X7_change
set_option maxRecDepth 20000 in
theorem ggL_law_X6_facts : GoodIn wsL_law wsX6_facts := goodIn_r _ [325, 211, 214, 215, 2, 216, 860, 861, 862, 863] (by decide +kernel) (by decide +kernel)
set_option maxRecDepth 20000 in
theorem gL_law_X6_facts : GoodIn wsL_law (wsV RL 135 RX6 yX6_facts wsX6_facts) := goodIn_app (goodIn_of _ (by decide +kernel)) ggL_law_X6_facts
set_option maxRecDepth 20000 in
theorem ggL_law_X7_facts : GoodIn wsL_law wsX7_facts := goodIn_r _ [329, 148, 287, 864, 865, 866, 867, 868, 869, 870, 871, 872, 873, 874, 875, 876, 877, 878, 879, 880, 881] (by decide +kernel) (by decide +kernel)
set_option maxRecDepth 20000 in
theorem gL_law_X7_facts : GoodIn wsL_law (wsV RL 138 RX7 yX7_facts wsX7_facts) := goodIn_app (goodIn_of _ (by decide +kernel)) ggL_law_X7_facts
set_option maxRecDepth 20000 in
theorem ggL_law_X6_triggered : GoodIn wsL_law wsX6_triggered := goodIn_r _ [333, 211, 217, 218, 2, 219, 860, 861, 862, 863] (by decide +kernel) (by decide +kernel)
set_option maxRecDepth 20000 in
theorem gL_law_X6_triggered : GoodIn wsL_law (wsV RL 139 RX6 yX6_triggered wsX6_triggered) := goodIn_app (goodIn_of _ (by decide +kernel)) ggL_law_X6_triggered
set_option maxRecDepth 20000 in
theorem ggL_law_X7_triggered : GoodIn wsL_law wsX7_triggered := goodIn_r _ [337, 148, 227, 864, 865, 866, 867, 868, 869, 870, 871, 872, 873, 874, 875, 876, 877, 878, 879, 880, 881] (by decide +kernel) (by decide +kernel)
set_option maxRecDepth 20000 in
theorem gL_law_X7_triggered : GoodIn wsL_law (wsV RL 142 RX7 yX7_triggered wsX7_triggered) := goodIn_app (goodIn_of _ (by decide +kernel)) ggL_law_X7_triggered
set_option maxRecDepth 20000 in
theorem ggL_law_X6_ready : GoodIn wsL_law wsX6_ready := goodIn_r _ [341, 17, 211, 342, 343, 344, 16, 345, 31, 143, 346, 347, 348, 35, 349, 41, 350, 218, 2, 219, 860, 861, 862, 863, 882, 883, 884, 899, 900, 901, 902, 903, 904, 905, 906, 907, 908, 909] (by decide +kernel) (by decide +kernel)
set_option maxRecDepth 20000 in
theorem gL_law_X6_ready : GoodIn wsL_law (wsV RL 143 RX6 yX6_ready wsX6_ready) := goodIn_app (goodIn_of _ (by decide +kernel)) ggL_law_X6_ready
set_option maxRecDepth 20000 in
theorem ggL_law_X7_ready : GoodIn wsL_law wsX7_ready := goodIn_r _ [354, 148, 307, 308, 309, 5, 310, 287, 227, 355, 356, 357, 358, 149, 90, 319, 320, 321, 250, 251, 252, 864, 865, 866, 867, 868, 869, 870, 871, 872, 873, 874, 875, 876, 877, 878, 879, 880, 881] (by decide +kernel) (by decide +kernel)
set_option maxRecDepth 20000 in
theorem gL_law_X7_ready : GoodIn wsL_law (wsV RL 146 RX7 yX7_ready wsX7_ready) := goodIn_app (goodIn_of _ (by decide +kernel)) ggL_law_X7_ready
set_option maxRecDepth 20000 in
theorem ggL_law_L_play : GoodIn wsL_law wsL_play := goodIn_ca (goodIn_ca (goodIn_r _ [361, 99, 101, 362, 363, 364, 2, 365, 106, 107, 211, 25, 17, 176, 177, 178, 179, 111, 112, 180, 181, 182, 16, 183, 122, 31, 366, 347, 348, 35, 349, 41, 350, 218, 219, 367, 368, 369, 370, 371, 372, 215, 216, 123, 124, 125, 24, 126, 127, 373, 374, 375, 376, 143, 377, 221, 222, 378, 379, 380, 381, 382, 40, 383, 296, 297, 298, 299, 300, 301, 302, 33, 860, 861, 862, 863, 882, 883, 884, 899, 900, 901, 902, 903, 904, 905, 906, 907, 908, 909, 887, 888, 889, 890, 891, 892, 893, 894, 895, 896, 897, 898] (by decide +kernel) (by decide +kernel)) (goodIn_sub (fun _ h => List.mem_append_left _ (List.mem_append_left _ (List.mem_append_right _ h))) (by decide +kernel))) (goodIn_sub (fun _ h => List.mem_append_left _ (List.mem_append_right _ h)) (by decide +kernel))
set_option maxRecDepth 20000 in
theorem gL_law_L_play : GoodIn wsL_law (va_wsS RL 147 yL_play wsL_play) := goodIn_app (goodIn_of _ (by decide +kernel)) ggL_law_L_play
set_option maxRecDepth 20000 in
theorem ggL_law_X7_play : GoodIn wsL_law wsX7_play := goodIn_r _ [387, 148, 150, 199, 200, 201, 5, 202, 149, 307, 308, 309, 310, 287, 227, 355, 356, 357, 358, 90, 319, 320, 321, 250, 251, 252, 388, 389, 390, 391, 84, 85, 392, 393, 394, 395, 86, 87, 311, 312, 313, 314, 89, 83, 315, 316, 317, 318, 864, 865, 866, 867, 868, 869, 870, 871, 872, 873, 874, 875, 876, 877, 878, 879, 880, 881] (by decide +kernel) (by decide +kernel)
set_option maxRecDepth 20000 in
theorem gL_law_X7_play : GoodIn wsL_law (wsV RL 149 RX7 yX7_play wsX7_play) := goodIn_app (goodIn_of _ (by decide +kernel)) ggL_law_X7_play
set_option maxRecDepth 20000 in
theorem ggL_law_L_run : GoodIn wsL_law wsL_run := goodIn_ca (goodIn_r _ [398, 100, 399, 400, 401, 2, 402, 116, 117, 25, 17, 211, 123, 124, 125, 24, 126, 127, 403, 404, 405, 16, 406, 31, 346, 347, 348, 35, 349, 41, 350, 218, 219, 373, 374, 375, 376, 143, 377, 215, 216, 221, 222, 378, 368, 369, 370, 371, 372, 379, 380, 381, 382, 40, 383, 296, 297, 298, 299, 300, 301, 302, 33, 860, 861, 862, 863, 887, 888, 889, 890, 891, 892, 893, 894, 895, 896, 897, 898, 882, 883, 884, 899, 900, 901, 902, 903, 904, 905, 906, 907, 908, 909] (by decide +kernel) (by decide +kernel)) (goodIn_sub (fun _ h => List.mem_append_right _ h) (by decide +kernel))
set_option maxRecDepth 20000 in
theorem gL_law_L_run : GoodIn wsL_law (va_wsS RL 150 yL_run wsL_run) := goodIn_app (goodIn_of _ (by decide +kernel)) ggL_law_L_run
set_option maxRecDepth 20000 in
theorem ggL_law_X7_run : GoodIn wsL_law wsX7_run := goodIn_r _ [410, 148, 227, 150, 307, 308, 309, 5, 310, 287, 355, 356, 357, 358, 149, 90, 319, 320, 321, 250, 251, 252, 411, 412, 413, 414, 415, 392, 393, 394, 395, 86, 87, 388, 389, 390, 391, 84, 85, 311, 312, 313, 314, 89, 83, 315, 316, 317, 318, 864, 865, 866, 867, 868, 869, 870, 871, 872, 873, 874, 875, 876, 877, 878, 879, 880, 881] (by decide +kernel) (by decide +kernel)
set_option maxRecDepth 20000 in
theorem gL_law_X7_run : GoodIn wsL_law (wsV RL 152 RX7 yX7_run wsX7_run) := goodIn_app (goodIn_of _ (by decide +kernel)) ggL_law_X7_run
set_option maxRecDepth 20000 in
theorem ggL_law_X6_explore : GoodIn wsL_law wsX6_explore := goodIn_r _ [419, 25, 211, 420, 421, 422, 24, 423, 127, 424, 425, 426, 427, 428, 429, 63, 430, 431, 432, 433, 52, 434, 435, 59, 436, 437, 438, 439, 55, 440, 441, 442, 58, 443, 444, 70, 445, 446, 447, 448, 53, 449, 450, 451, 452, 64, 453, 454, 343, 344, 16, 345, 31, 143, 346, 347, 348, 35, 349, 41, 350, 218, 2, 219, 455, 456, 413, 457, 458, 459, 460, 215, 216, 461, 462, 463, 464, 69, 465, 181, 182, 183, 122, 466, 374, 375, 376, 377, 221, 222, 378, 368, 369, 370, 371, 372, 379, 380, 381, 382, 40, 383, 296, 297, 298, 299, 300, 301, 302, 33, 467, 468, 469, 470, 54, 471, 472, 473, 62, 474, 475, 78, 476, 477, 478, 479, 480, 75, 76, 77, 481, 482, 483, 484, 485, 486, 487, 488, 489, 490, 491, 492, 493, 494, 495, 496, 497, 498, 499, 500, 501, 502, 503, 504, 505, 506, 507, 508, 509, 510, 511, 512, 513, 514, 860, 861, 862, 863, 887, 888, 889, 890, 891, 892, 893, 894, 895, 896, 897, 898, 910, 911, 912, 899, 900, 901, 902, 903, 904, 905, 906, 907, 908, 909, 882, 883, 884, 913, 914, 915, 916, 917, 918, 919, 920] (by decide +kernel) (by decide +kernel)
set_option maxRecDepth 20000 in
theorem gL_law_X6_explore : GoodIn wsL_law (wsV RL 153 RX6 yX6_explore wsX6_explore) := goodIn_app (goodIn_of _ (by decide +kernel)) ggL_law_X6_explore
set_option maxRecDepth 20000 in
theorem ggL_law_X7_explore : GoodIn wsL_law wsX7_explore := goodIn_r _ [518, 148, 150, 519, 520, 521, 522, 523, 5, 524, 91, 92, 307, 308, 309, 310, 287, 227, 355, 356, 357, 358, 149, 90, 319, 320, 321, 250, 251, 252, 392, 393, 394, 395, 86, 87, 388, 389, 390, 391, 84, 85, 311, 312, 313, 314, 89, 83, 525, 526, 527, 528, 864, 865, 866, 867, 868, 869, 870, 871, 872, 873, 874, 875, 876, 877, 878, 879, 880, 881] (by decide +kernel) (by decide +kernel)
set_option maxRecDepth 20000 in
theorem gL_law_X7_explore : GoodIn wsL_law (wsV RL 156 RX7 yX7_explore wsX7_explore) := goodIn_app (goodIn_of _ (by decide +kernel)) ggL_law_X7_explore
set_option maxRecDepth 20000 in
theorem ggL_law_L_factsOf : GoodIn wsL_law wsL_factsOf := goodIn_ca (goodIn_ca (goodIn_r _ [531, 101, 99, 532, 533, 534, 2, 535, 536, 537, 538, 539, 111, 112, 25, 540, 541, 542, 543, 106, 107, 544, 545, 546, 24, 547, 127, 429, 548, 549, 550, 551, 428, 52, 214, 215, 216, 860, 861, 862, 863, 887, 888, 889, 890, 891, 892, 893, 894, 895, 896, 897, 898] (by decide +kernel) (by decide +kernel)) (goodIn_sub (fun _ h => List.mem_append_left _ (List.mem_append_right _ h)) (by decide +kernel))) (goodIn_sub (fun _ h => List.mem_append_left _ (List.mem_append_left _ (List.mem_append_right _ h))) (by decide +kernel))
set_option maxRecDepth 20000 in
theorem gL_law_L_factsOf : GoodIn wsL_law (va_wsS RL 157 yL_factsOf wsL_factsOf) := goodIn_app (goodIn_of _ (by decide +kernel)) ggL_law_L_factsOf
set_option maxRecDepth 20000 in
theorem ggL_law_X7_factsOf : GoodIn wsL_law wsX7_factsOf := goodIn_r _ [555, 520, 91, 556, 557, 558, 5, 559, 148, 560, 561, 562, 563, 150, 519, 864, 865, 866, 867, 868, 869, 870, 871, 872, 873, 874, 875, 876, 877, 878, 879, 880, 881] (by decide +kernel) (by decide +kernel)
set_option maxRecDepth 20000 in
theorem gL_law_X7_factsOf : GoodIn wsL_law (wsV RL 159 RX7 yX7_factsOf wsX7_factsOf) := goodIn_app (goodIn_of _ (by decide +kernel)) ggL_law_X7_factsOf
set_option maxRecDepth 20000 in
theorem ggL_law_L_triggeredOf : GoodIn wsL_law wsL_triggeredOf := goodIn_ca (goodIn_ca (goodIn_r _ [566, 101, 99, 567, 568, 569, 2, 570, 536, 537, 538, 539, 111, 112, 25, 540, 541, 542, 543, 106, 107, 544, 545, 546, 24, 547, 127, 429, 548, 549, 550, 551, 428, 52, 217, 218, 219, 860, 861, 862, 863, 887, 888, 889, 890, 891, 892, 893, 894, 895, 896, 897, 898] (by decide +kernel) (by decide +kernel)) (goodIn_sub (fun _ h => List.mem_append_left _ (List.mem_append_right _ h)) (by decide +kernel))) (goodIn_sub (fun _ h => List.mem_append_left _ (List.mem_append_left _ (List.mem_append_right _ h))) (by decide +kernel))
set_option maxRecDepth 20000 in
theorem gL_law_L_triggeredOf : GoodIn wsL_law (va_wsS RL 160 yL_triggeredOf wsL_triggeredOf) := goodIn_app (goodIn_of _ (by decide +kernel)) ggL_law_L_triggeredOf
set_option maxRecDepth 20000 in
theorem ggL_law_X7_triggeredOf : GoodIn wsL_law wsX7_triggeredOf := goodIn_r _ [574, 520, 91, 556, 557, 558, 5, 559, 148, 560, 561, 562, 563, 150, 519, 319, 320, 321, 864, 865, 866, 867, 868, 869, 870, 871, 872, 873, 874, 875, 876, 877, 878, 879, 880, 881] (by decide +kernel) (by decide +kernel)
set_option maxRecDepth 20000 in
theorem gL_law_X7_triggeredOf : GoodIn wsL_law (wsV RL 162 RX7 yX7_triggeredOf wsX7_triggeredOf) := goodIn_app (goodIn_of _ (by decide +kernel)) ggL_law_X7_triggeredOf
set_option maxRecDepth 20000 in
theorem ggL_law_L_after : GoodIn wsL_law wsL_after := goodIn_ca (goodIn_ca (goodIn_r _ [577, 101, 99, 578, 579, 580, 2, 581, 25, 536, 537, 538, 539, 111, 112, 540, 541, 542, 543, 106, 107, 544, 545, 546, 24, 547, 127, 429, 548, 549, 550, 551, 428, 52, 176, 177, 178, 179, 17, 180, 181, 182, 16, 183, 122, 31, 582, 486, 487, 488, 54, 860, 861, 862, 863, 887, 888, 889, 890, 891, 892, 893, 894, 895, 896, 897, 898, 882, 883, 884] (by decide +kernel) (by decide +kernel)) (goodIn_sub (fun _ h => List.mem_append_left _ (List.mem_append_right _ h)) (by decide +kernel))) (goodIn_sub (fun _ h => List.mem_append_left _ (List.mem_append_left _ (List.mem_append_right _ h))) (by decide +kernel))
set_option maxRecDepth 20000 in
theorem gL_law_L_after : GoodIn wsL_law (va_wsS RL 163 yL_after wsL_after) := goodIn_app (goodIn_of _ (by decide +kernel)) ggL_law_L_after
set_option maxRecDepth 20000 in
theorem ggL_law_X7_after : GoodIn wsL_law wsX7_after := goodIn_r _ [586, 520, 149, 92, 556, 557, 558, 5, 559, 148, 560, 561, 562, 563, 150, 519, 864, 865, 866, 867, 868, 869, 870, 871, 872, 873, 874, 875, 876, 877, 878, 879, 880, 881] (by decide +kernel) (by decide +kernel)
set_option maxRecDepth 20000 in
theorem gL_law_X7_after : GoodIn wsL_law (wsV RL 165 RX7 yX7_after wsX7_after) := goodIn_app (goodIn_of _ (by decide +kernel)) ggL_law_X7_after
set_option maxRecDepth 20000 in
theorem ggL_law_L_terminates : GoodIn wsL_law wsL_terminates := goodIn_ca (goodIn_r _ [589, 101, 590, 591, 592, 2, 593, 25, 594, 540, 541, 542, 543, 106, 107, 544, 545, 546, 24, 547, 127, 429, 595, 596, 597, 62, 598, 476, 860, 861, 862, 863, 887, 888, 889, 890, 891, 892, 893, 894, 895, 896, 897, 898, 913, 914, 915, 916, 917, 918, 919, 920] (by decide +kernel) (by decide +kernel)) (goodIn_sub (fun _ h => List.mem_append_left _ (List.mem_append_left _ (List.mem_append_right _ h))) (by decide +kernel))
set_option maxRecDepth 20000 in
theorem gL_law_L_terminates : GoodIn wsL_law (va_wsS RL 166 yL_terminates wsL_terminates) := goodIn_app (goodIn_of _ (by decide +kernel)) ggL_law_L_terminates
set_option maxRecDepth 20000 in
theorem ggL_law_X7_terminates : GoodIn wsL_law wsX7_terminates := goodIn_r _ [602, 556, 557, 558, 5, 559, 148, 560, 561, 562, 563, 150, 519, 603, 604, 605, 606, 520, 93, 94, 149, 92, 607, 504, 505, 506, 608, 609, 610, 611, 612, 613, 614, 615, 91, 319, 320, 321, 864, 865, 866, 867, 868, 869, 870, 871, 872, 873, 874, 875, 876, 877, 878, 879, 880, 881] (by decide +kernel) (by decide +kernel)
set_option maxRecDepth 20000 in
theorem gL_law_X7_terminates : GoodIn wsL_law (wsV RL 169 RX7 yX7_terminates wsX7_terminates) := goodIn_app (goodIn_of _ (by decide +kernel)) ggL_law_X7_terminates
set_option maxRecDepth 20000 in
theorem ggL_law_L_endCount : GoodIn wsL_law wsL_endCount := goodIn_ca (goodIn_r _ [618, 101, 619, 620, 621, 2, 622, 25, 623, 540, 541, 542, 543, 106, 107, 544, 545, 546, 24, 547, 127, 429, 624, 625, 626, 58, 627, 444, 860, 861, 862, 863, 887, 888, 889, 890, 891, 892, 893, 894, 895, 896, 897, 898, 910, 911, 912] (by decide +kernel) (by decide +kernel)) (goodIn_sub (fun _ h => List.mem_append_left _ (List.mem_append_left _ (List.mem_append_right _ h))) (by decide +kernel))
set_option maxRecDepth 20000 in
theorem gL_law_L_endCount : GoodIn wsL_law (va_wsS RL 170 yL_endCount wsL_endCount) := goodIn_app (goodIn_of _ (by decide +kernel)) ggL_law_L_endCount
set_option maxRecDepth 20000 in
theorem ggL_law_X7_endCount : GoodIn wsL_law wsX7_endCount := goodIn_r _ [631, 520, 556, 557, 558, 5, 559, 148, 560, 561, 562, 563, 150, 519, 612, 613, 614, 615, 91, 319, 320, 321, 864, 865, 866, 867, 868, 869, 870, 871, 872, 873, 874, 875, 876, 877, 878, 879, 880, 881] (by decide +kernel) (by decide +kernel)
set_option maxRecDepth 20000 in
theorem gL_law_X7_endCount : GoodIn wsL_law (wsV RL 172 RX7 yX7_endCount wsX7_endCount) := goodIn_app (goodIn_of _ (by decide +kernel)) ggL_law_X7_endCount
set_option maxRecDepth 20000 in
theorem ggL_law_L_end : GoodIn wsL_law wsL_end := goodIn_ca (goodIn_ca (goodIn_r _ [634, 101, 99, 635, 636, 637, 2, 638, 111, 112, 25, 623, 540, 541, 542, 543, 106, 107, 544, 545, 546, 24, 547, 127, 429, 639, 640, 641, 58, 642, 444, 69, 860, 861, 862, 863, 887, 888, 889, 890, 891, 892, 893, 894, 895, 896, 897, 898, 910, 911, 912] (by decide +kernel) (by decide +kernel)) (goodIn_sub (fun _ h => List.mem_append_left _ (List.mem_append_right _ h)) (by decide +kernel))) (goodIn_sub (fun _ h => List.mem_append_left _ (List.mem_append_left _ (List.mem_append_right _ h))) (by decide +kernel))
set_option maxRecDepth 20000 in
theorem gL_law_L_end : GoodIn wsL_law (va_wsS RL 173 yL_end wsL_end) := goodIn_app (goodIn_of _ (by decide +kernel)) ggL_law_L_end
set_option maxRecDepth 20000 in
theorem ggL_law_X7_end : GoodIn wsL_law wsX7_end := goodIn_r _ [646, 91, 647, 629, 630, 5, 631, 520, 556, 557, 558, 559, 148, 560, 561, 562, 563, 150, 519, 612, 613, 614, 615, 319, 320, 321, 864, 865, 866, 867, 868, 869, 870, 871, 872, 873, 874, 875, 876, 877, 878, 879, 880, 881] (by decide +kernel) (by decide +kernel)
set_option maxRecDepth 20000 in
theorem gL_law_X7_end : GoodIn wsL_law (wsV RL 175 RX7 yX7_end wsX7_end) := goodIn_app (goodIn_of _ (by decide +kernel)) ggL_law_X7_end
set_option maxRecDepth 20000 in
theorem ggL_law_L_shortest : GoodIn wsL_law wsL_shortest := goodIn_ca (goodIn_r _ [650, 101, 651, 652, 653, 2, 654, 25, 623, 540, 541, 542, 543, 106, 107, 544, 545, 546, 24, 547, 127, 429, 655, 656, 657, 58, 658, 70, 860, 861, 862, 863, 887, 888, 889, 890, 891, 892, 893, 894, 895, 896, 897, 898, 910, 911, 912] (by decide +kernel) (by decide +kernel)) (goodIn_sub (fun _ h => List.mem_append_left _ (List.mem_append_left _ (List.mem_append_right _ h))) (by decide +kernel))
set_option maxRecDepth 20000 in
theorem gL_law_L_shortest : GoodIn wsL_law (va_wsS RL 176 yL_shortest wsL_shortest) := goodIn_app (goodIn_of _ (by decide +kernel)) ggL_law_L_shortest
set_option maxRecDepth 20000 in
theorem ggL_law_X7_shortest : GoodIn wsL_law wsX7_shortest := goodIn_r _ [662, 520, 32, 149, 92, 556, 557, 558, 5, 559, 148, 560, 561, 562, 563, 150, 519, 612, 613, 614, 615, 91, 319, 320, 321, 864, 865, 866, 867, 868, 869, 870, 871, 872, 873, 874, 875, 876, 877, 878, 879, 880, 881] (by decide +kernel) (by decide +kernel)
set_option maxRecDepth 20000 in
theorem gL_law_X7_shortest : GoodIn wsL_law (wsV RL 178 RX7 yX7_shortest wsX7_shortest) := goodIn_app (goodIn_of _ (by decide +kernel)) ggL_law_X7_shortest
set_option maxRecDepth 20000 in
theorem ggL_law_L_longest : GoodIn wsL_law wsL_longest := goodIn_ca (goodIn_r _ [665, 101, 666, 667, 668, 2, 669, 25, 594, 540, 541, 542, 543, 106, 107, 544, 545, 546, 24, 547, 127, 429, 670, 671, 672, 62, 673, 476, 493, 860, 861, 862, 863, 887, 888, 889, 890, 891, 892, 893, 894, 895, 896, 897, 898, 913, 914, 915, 916, 917, 918, 919, 920] (by decide +kernel) (by decide +kernel)) (goodIn_sub (fun _ h => List.mem_append_left _ (List.mem_append_left _ (List.mem_append_right _ h))) (by decide +kernel))
set_option maxRecDepth 20000 in
theorem gL_law_L_longest : GoodIn wsL_law (va_wsS RL 179 yL_longest wsL_longest) := goodIn_app (goodIn_of _ (by decide +kernel)) ggL_law_L_longest
set_option maxRecDepth 20000 in
theorem ggL_law_X7_longest : GoodIn wsL_law wsX7_longest := goodIn_r _ [677, 93, 556, 557, 558, 5, 559, 148, 560, 561, 562, 563, 150, 519, 603, 604, 605, 606, 520, 94, 149, 92, 607, 504, 505, 506, 608, 609, 610, 611, 612, 613, 614, 615, 91, 319, 320, 321, 864, 865, 866, 867, 868, 869, 870, 871, 872, 873, 874, 875, 876, 877, 878, 879, 880, 881] (by decide +kernel) (by decide +kernel)
set_option maxRecDepth 20000 in
theorem gL_law_X7_longest : GoodIn wsL_law (wsV RL 181 RX7 yX7_longest wsX7_longest) := goodIn_app (goodIn_of _ (by decide +kernel)) ggL_law_X7_longest
set_option maxRecDepth 20000 in
theorem ggL_law_L_ways : GoodIn wsL_law wsL_ways := goodIn_ca (goodIn_r _ [680, 101, 681, 682, 683, 2, 684, 25, 594, 540, 541, 542, 543, 106, 107, 544, 545, 546, 24, 547, 127, 429, 685, 686, 687, 62, 688, 476, 494, 689, 860, 861, 862, 863, 887, 888, 889, 890, 891, 892, 893, 894, 895, 896, 897, 898, 913, 914, 915, 916, 917, 918, 919, 920] (by decide +kernel) (by decide +kernel)) (goodIn_sub (fun _ h => List.mem_append_left _ (List.mem_append_left _ (List.mem_append_right _ h))) (by decide +kernel))
set_option maxRecDepth 20000 in
theorem gL_law_L_ways : GoodIn wsL_law (va_wsS RL 182 yL_ways wsL_ways) := goodIn_app (goodIn_of _ (by decide +kernel)) ggL_law_L_ways
set_option maxRecDepth 20000 in
theorem ggL_law_X7_ways : GoodIn wsL_law wsX7_ways := goodIn_r _ [693, 94, 694, 556, 557, 558, 5, 559, 148, 560, 561, 562, 563, 150, 519, 603, 604, 605, 606, 520, 93, 149, 92, 607, 504, 505, 506, 608, 609, 610, 611, 612, 613, 614, 615, 91, 319, 320, 321, 864, 865, 866, 867, 868, 869, 870, 871, 872, 873, 874, 875, 876, 877, 878, 879, 880, 881] (by decide +kernel) (by decide +kernel)
set_option maxRecDepth 20000 in
theorem gL_law_X7_ways : GoodIn wsL_law (wsV RL 184 RX7 yX7_ways wsX7_ways) := goodIn_app (goodIn_of _ (by decide +kernel)) ggL_law_X7_ways
set_option maxRecDepth 20000 in
theorem ggL_law_L_isPlayed : GoodIn wsL_law wsL_isPlayed := goodIn_ca (goodIn_ca (goodIn_r _ [697, 101, 99, 698, 699, 700, 2, 701, 25, 212, 540, 541, 542, 543, 106, 107, 544, 545, 546, 24, 547, 127, 429, 702, 703, 704, 705, 434, 176, 177, 178, 179, 111, 112, 17, 180, 181, 182, 16, 183, 122, 31, 860, 861, 862, 863, 899, 900, 901, 902, 903, 904, 905, 906, 907, 908, 909, 887, 888, 889, 890, 891, 892, 893, 894, 895, 896, 897, 898, 882, 883, 884] (by decide +kernel) (by decide +kernel)) (goodIn_sub (fun _ h => List.mem_append_left _ (List.mem_append_left _ (List.mem_append_right _ h))) (by decide +kernel))) (goodIn_sub (fun _ h => List.mem_append_left _ (List.mem_append_right _ h)) (by decide +kernel))
set_option maxRecDepth 20000 in
theorem gL_law_L_isPlayed : GoodIn wsL_law (va_wsS RL 185 yL_isPlayed wsL_isPlayed) := goodIn_app (goodIn_of _ (by decide +kernel)) ggL_law_L_isPlayed
set_option maxRecDepth 20000 in
theorem ggL_law_X7_isPlayed : GoodIn wsL_law wsX7_isPlayed := goodIn_r _ [709, 149, 520, 92, 556, 557, 558, 5, 559, 148, 560, 561, 562, 563, 150, 519, 864, 865, 866, 867, 868, 869, 870, 871, 872, 873, 874, 875, 876, 877, 878, 879, 880, 881] (by decide +kernel) (by decide +kernel)
set_option maxRecDepth 20000 in
theorem gL_law_X7_isPlayed : GoodIn wsL_law (wsV RL 187 RX7 yX7_isPlayed wsX7_isPlayed) := goodIn_app (goodIn_of _ (by decide +kernel)) ggL_law_X7_isPlayed
set_option maxRecDepth 20000 in
theorem ggL_law_L_choice : GoodIn wsL_law wsL_choice := goodIn_ca (goodIn_r _ [712, 101, 713, 714, 715, 2, 716, 25, 540, 541, 542, 543, 106, 107, 544, 545, 546, 24, 547, 127, 429, 717, 718, 719, 720, 428, 435, 860, 861, 862, 863, 887, 888, 889, 890, 891, 892, 893, 894, 895, 896, 897, 898] (by decide +kernel) (by decide +kernel)) (goodIn_sub (fun _ h => List.mem_append_left _ (List.mem_append_left _ (List.mem_append_right _ h))) (by decide +kernel))
set_option maxRecDepth 20000 in
theorem gL_law_L_choice : GoodIn wsL_law (va_wsS RL 188 yL_choice wsL_choice) := goodIn_app (goodIn_of _ (by decide +kernel)) ggL_law_L_choice
set_option maxRecDepth 20000 in
theorem ggL_law_X7_choice : GoodIn wsL_law wsX7_choice := goodIn_r _ [724, 520, 91, 556, 557, 558, 5, 559, 148, 560, 561, 562, 563, 150, 519, 355, 356, 357, 358, 149, 90, 319, 320, 321, 250, 251, 252, 725, 456, 413, 457, 458, 459, 460, 864, 865, 866, 867, 868, 869, 870, 871, 872, 873, 874, 875, 876, 877, 878, 879, 880, 881] (by decide +kernel) (by decide +kernel)
set_option maxRecDepth 20000 in
theorem gL_law_X7_choice : GoodIn wsL_law (wsV RL 191 RX7 yX7_choice wsX7_choice) := goodIn_app (goodIn_of _ (by decide +kernel)) ggL_law_X7_choice
set_option maxRecDepth 20000 in
theorem ggL_law_L_canTrigger : GoodIn wsL_law wsL_canTrigger := goodIn_ca (goodIn_r _ [728, 99, 729, 730, 731, 2, 732, 17, 176, 177, 178, 179, 111, 112, 180, 181, 182, 16, 183, 122, 31, 733, 734, 735, 736, 142, 377, 379, 380, 381, 35, 382, 40, 299, 300, 301, 302, 33, 860, 861, 862, 863, 882, 883, 884, 899, 900, 901, 902, 903, 904, 905, 906, 907, 908, 909] (by decide +kernel) (by decide +kernel)) (goodIn_sub (fun _ h => List.mem_append_left _ (List.mem_append_right _ h)) (by decide +kernel))
set_option maxRecDepth 20000 in
theorem gL_law_L_canTrigger : GoodIn wsL_law (va_wsS RL 192 yL_canTrigger wsL_canTrigger) := goodIn_app (goodIn_of _ (by decide +kernel)) ggL_law_L_canTrigger
set_option maxRecDepth 20000 in
theorem ggL_law_X7_canTrigger : GoodIn wsL_law wsX7_canTrigger := goodIn_r _ [740, 148, 199, 200, 201, 5, 202, 149, 741, 742, 743, 744, 86, 89, 87, 83, 154, 155, 156, 157, 864, 865, 866, 867, 868, 869, 870, 871, 872, 873, 874, 875, 876, 877, 878, 879, 880, 881] (by decide +kernel) (by decide +kernel)
set_option maxRecDepth 20000 in
theorem gL_law_X7_canTrigger : GoodIn wsL_law (wsV RL 194 RX7 yX7_canTrigger wsX7_canTrigger) := goodIn_app (goodIn_of _ (by decide +kernel)) ggL_law_X7_canTrigger
set_option maxRecDepth 20000 in
theorem ggL_law_X6_circular : GoodIn wsL_law wsX6_circular := goodIn_r _ [748, 21, 749, 750, 751, 20, 752, 46, 753, 754, 755, 756, 47, 757, 181, 182, 16, 183, 122, 31, 758, 734, 735, 736, 142, 377, 379, 380, 381, 35, 382, 40, 299, 300, 301, 302, 33, 860, 861, 862, 863, 885, 886, 882, 883, 884, 899, 900, 901, 902, 903, 904, 905, 906, 907, 908, 909] (by decide +kernel) (by decide +kernel)
set_option maxRecDepth 20000 in
theorem gL_law_X6_circular : GoodIn wsL_law (wsV RL 195 RX6 yX6_circular wsX6_circular) := goodIn_app (goodIn_of _ (by decide +kernel)) ggL_law_X6_circular
set_option maxRecDepth 20000 in
theorem ggL_law_X7_circular : GoodIn wsL_law wsX7_circular := goodIn_r _ [762, 148, 149, 741, 742, 743, 5, 744, 86, 89, 87, 83, 250, 251, 252, 864, 865, 866, 867, 868, 869, 870, 871, 872, 873, 874, 875, 876, 877, 878, 879, 880, 881] (by decide +kernel) (by decide +kernel)
set_option maxRecDepth 20000 in
theorem gL_law_X7_circular : GoodIn wsL_law (wsV RL 198 RX7 yX7_circular wsX7_circular) := goodIn_app (goodIn_of _ (by decide +kernel)) ggL_law_X7_circular
set_option maxRecDepth 20000 in
theorem ggL_law_L_commute : GoodIn wsL_law wsL_commute := goodIn_ca (goodIn_ca (goodIn_r _ [765, 99, 100, 766, 767, 768, 2, 769, 116, 117, 21, 176, 177, 178, 179, 111, 112, 17, 180, 181, 182, 16, 183, 122, 31, 770, 771, 772, 20, 773, 774, 47, 775, 776, 777, 758, 734, 735, 736, 142, 377, 379, 380, 381, 35, 382, 40, 299, 300, 301, 302, 33, 778, 779, 780, 781, 193, 194, 782, 783, 784, 785, 371, 372, 860, 861, 862, 863, 882, 883, 884, 899, 900, 901, 902, 903, 904, 905, 906, 907, 908, 909, 885, 886] (by decide +kernel) (by decide +kernel)) (goodIn_sub (fun _ h => List.mem_append_right _ h) (by decide +kernel))) (goodIn_sub (fun _ h => List.mem_append_left _ (List.mem_append_right _ h)) (by decide +kernel))
set_option maxRecDepth 20000 in
theorem gL_law_L_commute : GoodIn wsL_law (va_wsS RL 199 yL_commute wsL_commute) := goodIn_app (goodIn_of _ (by decide +kernel)) ggL_law_L_commute
set_option maxRecDepth 20000 in
theorem ggL_law_X7_commute : GoodIn wsL_law wsX7_commute := goodIn_r _ [789, 148, 199, 200, 201, 5, 202, 149, 790, 791, 792, 793, 89, 741, 742, 743, 744, 86, 87, 83, 794, 795, 796, 797, 84, 85, 250, 251, 252, 864, 865, 866, 867, 868, 869, 870, 871, 872, 873, 874, 875, 876, 877, 878, 879, 880, 881] (by decide +kernel) (by decide +kernel)
set_option maxRecDepth 20000 in
theorem gL_law_X7_commute : GoodIn wsL_law (wsV RL 201 RX7 yX7_commute wsX7_commute) := goodIn_app (goodIn_of _ (by decide +kernel)) ggL_law_X7_commute
set_option maxRecDepth 20000 in
theorem ggL_law_X6_conflictCount : GoodIn wsL_law wsX6_conflictCount := goodIn_r _ [801, 21, 802, 803, 804, 20, 805, 806, 807, 808, 809, 47, 757, 181, 182, 16, 183, 122, 31, 810, 236, 237, 35, 238, 239, 41, 811, 771, 772, 773, 774, 775, 776, 777, 758, 734, 735, 736, 142, 377, 379, 380, 381, 382, 40, 299, 300, 301, 302, 33, 778, 779, 780, 781, 193, 194, 782, 783, 784, 785, 371, 372, 860, 861, 862, 863, 885, 886, 882, 883, 884, 899, 900, 901, 902, 903, 904, 905, 906, 907, 908, 909] (by decide +kernel) (by decide +kernel)
set_option maxRecDepth 20000 in
theorem gL_law_X6_conflictCount : GoodIn wsL_law (wsV RL 202 RX6 yX6_conflictCount wsX6_conflictCount) := goodIn_app (goodIn_of _ (by decide +kernel)) ggL_law_X6_conflictCount
set_option maxRecDepth 20000 in
theorem ggL_law_X7_conflictCount : GoodIn wsL_law wsX7_conflictCount := goodIn_r _ [815, 148, 149, 816, 817, 818, 5, 819, 90, 790, 791, 792, 793, 89, 741, 742, 743, 744, 86, 87, 83, 794, 795, 796, 797, 84, 85, 250, 251, 252, 864, 865, 866, 867, 868, 869, 870, 871, 872, 873, 874, 875, 876, 877, 878, 879, 880, 881] (by decide +kernel) (by decide +kernel)
set_option maxRecDepth 20000 in
theorem gL_law_X7_conflictCount : GoodIn wsL_law (wsV RL 205 RX7 yX7_conflictCount wsX7_conflictCount) := goodIn_app (goodIn_of _ (by decide +kernel)) ggL_law_X7_conflictCount
set_option maxRecDepth 20000 in
theorem ggL_law_L_conflict : GoodIn wsL_law wsL_conflict := goodIn_ca (goodIn_r _ [822, 99, 823, 824, 825, 2, 826, 111, 112, 21, 827, 828, 829, 20, 830, 806, 807, 808, 809, 47, 757, 181, 182, 16, 183, 122, 31, 810, 236, 237, 35, 238, 239, 41, 811, 771, 772, 773, 774, 775, 776, 777, 758, 734, 735, 736, 142, 377, 379, 380, 381, 382, 40, 299, 300, 301, 302, 33, 778, 779, 780, 781, 193, 194, 782, 783, 784, 785, 371, 372, 860, 861, 862, 863, 885, 886, 882, 883, 884, 899, 900, 901, 902, 903, 904, 905, 906, 907, 908, 909] (by decide +kernel) (by decide +kernel)) (goodIn_sub (fun _ h => List.mem_append_left _ (List.mem_append_right _ h)) (by decide +kernel))
set_option maxRecDepth 20000 in
theorem gL_law_L_conflict : GoodIn wsL_law (va_wsS RL 206 yL_conflict wsL_conflict) := goodIn_app (goodIn_of _ (by decide +kernel)) ggL_law_L_conflict
set_option maxRecDepth 20000 in
theorem ggL_law_X7_conflict : GoodIn wsL_law wsX7_conflict := goodIn_r _ [834, 148, 149, 816, 817, 818, 5, 819, 90, 790, 791, 792, 793, 89, 741, 742, 743, 744, 86, 87, 83, 794, 795, 796, 797, 84, 85, 250, 251, 252, 154, 155, 156, 157, 864, 865, 866, 867, 868, 869, 870, 871, 872, 873, 874, 875, 876, 877, 878, 879, 880, 881] (by decide +kernel) (by decide +kernel)
set_option maxRecDepth 20000 in
theorem gL_law_X7_conflict : GoodIn wsL_law (wsV RL 208 RX7 yX7_conflict wsX7_conflict) := goodIn_app (goodIn_of _ (by decide +kernel)) ggL_law_X7_conflict
set_option maxRecDepth 20000 in
theorem ggL_law_X6_digest : GoodIn wsL_law wsX6_digest := goodIn_r _ [838, 17, 839, 840, 211, 25, 841, 842, 843, 16, 844, 845, 122, 31, 846, 847, 848, 35, 849, 850, 851, 371, 372, 188, 852, 239, 853, 380, 381, 382, 40, 214, 215, 2, 216, 217, 218, 219, 420, 421, 422, 24, 423, 127, 511, 512, 513, 514, 429, 428, 860, 861, 862, 863, 882, 883, 884, 899, 900, 901, 902, 903, 904, 905, 906, 907, 908, 909, 887, 888, 889, 890, 891, 892, 893, 894, 895, 896, 897, 898] (by decide +kernel) (by decide +kernel)
set_option maxRecDepth 20000 in
theorem gL_law_X6_digest : GoodIn wsL_law (wsV RL 209 RX6 yX6_digest wsX6_digest) := goodIn_app (goodIn_of _ (by decide +kernel)) ggL_law_X6_digest
set_option maxRecDepth 20000 in
theorem ggL_law_X7_digest : GoodIn wsL_law wsX7_digest := goodIn_r _ [857, 148, 858, 149, 859, 83, 84, 85, 86, 87, 89, 90, 287, 227, 150, 519, 520, 864, 865, 866, 867, 868, 869, 870, 871, 872, 873, 874, 875, 876, 877, 878, 879, 880, 881] (by decide +kernel) (by decide +kernel)
set_option maxRecDepth 20000 in
theorem gL_law_X7_digest : GoodIn wsL_law (wsV RL 212 RX7 yX7_digest wsX7_digest) := goodIn_app (goodIn_of _ (by decide +kernel)) ggL_law_X7_digest
