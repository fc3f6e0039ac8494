/-! the law: words of its calls, its instructions; piece 0 -/
set_option maxRecDepth 20000 in
theorem ggL_law_X6_init : GoodIn wsL_law wsX6_init := goodIn_r _ [9, 10, 11, 12, 13, 14, 15, 16, 17, 18, 19, 20, 21, 22, 23, 24, 25, 26, 27, 28, 29, 30, 31, 32, 33, 34, 35, 36, 37, 38, 39, 40, 41, 42, 43, 44, 45, 46, 47, 48, 49, 50, 51, 52, 53, 54, 55, 56, 57, 58, 59, 60, 61, 62, 63, 64, 65, 66, 67, 68, 69, 70, 71, 72, 73, 74, 75, 76, 1003, 1004, 1005, 967, 968, 969, 970, 971, 972, 1006, 1007, 1008, 1009, 1010, 1011, 1012, 1013, 1014, 1015, 1016, 1017, 1018, 1019, 1020, 1021, 1022, 1023, 1024, 1025, 1026, 1027] (by decide +kernel) (by decide +kernel)
set_option maxRecDepth 20000 in
theorem gL_law_X6_init : GoodIn wsL_law (wsX6_init) := ggL_law_X6_init
set_option maxRecDepth 20000 in
theorem ggL_law_X7_init : GoodIn wsL_law wsX7_init := goodIn_r _ [79, 80, 11, 12, 34, 81, 82, 83, 84, 85, 86, 87, 88, 89, 90, 47, 91, 92, 93, 94, 95, 96, 97, 98, 99, 100, 101, 102, 103, 973, 974, 975, 976, 977, 978, 979, 980, 981, 982, 983, 984, 985, 986, 987, 988, 989, 990, 991, 992, 993, 994, 995, 996, 997, 998, 999, 1000, 1001, 1002] (by decide +kernel) (by decide +kernel)
set_option maxRecDepth 20000 in
theorem gL_law_X7_init : GoodIn wsL_law (wsX7_init) := ggL_law_X7_init
set_option maxRecDepth 20000 in
theorem ggL_law_L_leg : GoodIn wsL_law wsL_leg := goodIn_ca (goodIn_ca (goodIn_ca (goodIn_r _ [107, 108, 109, 110, 111, 112, 113, 2, 114, 115, 116, 117, 118, 16, 119, 120, 121, 122, 123, 124, 125, 126, 127, 128, 129, 15, 130, 37, 131, 132, 133, 134, 35, 36, 967, 968, 969, 970, 971, 972, 1003, 1004, 1005] (by decide +kernel) (by decide +kernel)) (goodIn_sub (fun _ h => List.mem_append_left _ (List.mem_append_left _ (List.mem_append_right _ h))) (by decide +kernel))) (goodIn_sub (fun _ h => List.mem_append_left _ (List.mem_append_right _ h)) (by decide +kernel))) (goodIn_sub (fun _ h => List.mem_append_right _ h) (by decide +kernel))
set_option maxRecDepth 20000 in
theorem gL_law_L_leg : GoodIn wsL_law (va_wsS RL 132 yL_leg wsL_leg) := goodIn_app (goodIn_of _ (by decide +kernel)) ggL_law_L_leg
set_option maxRecDepth 20000 in
theorem ggL_law_X7_leg : GoodIn wsL_law wsX7_leg := goodIn_r _ [138, 139, 81, 82, 140, 141, 5, 142, 143, 144, 145, 146, 147, 148, 149, 150, 973, 974, 975, 976, 977, 978, 979, 980, 981, 982, 983, 984, 985, 986, 987, 988, 989, 990, 991, 992, 993, 994, 995, 996, 997, 998, 999, 1000, 1001, 1002] (by decide +kernel) (by decide +kernel)
set_option maxRecDepth 20000 in
theorem gL_law_X7_leg : GoodIn wsL_law (wsV RL 137 RX7 yX7_leg wsX7_leg) := goodIn_app (goodIn_of _ (by decide +kernel)) ggL_law_X7_leg
set_option maxRecDepth 20000 in
theorem ggL_law_X7_thrown : GoodIn wsL_law wsX7_thrown := goodIn_r _ [154, 150, 973, 974, 975, 976, 977, 978, 979, 980, 981, 982, 983, 984, 985, 986, 987, 988, 989, 990, 991, 992, 993, 994, 995, 996, 997, 998, 999, 1000, 1001, 1002] (by decide +kernel) (by decide +kernel)
set_option maxRecDepth 20000 in
theorem gL_law_X7_thrown : GoodIn wsL_law (wsV RL 138 RX7 yX7_thrown wsX7_thrown) := goodIn_app (goodIn_of _ (by decide +kernel)) ggL_law_X7_thrown
set_option maxRecDepth 20000 in
theorem ggL_law_X6_wipe : GoodIn wsL_law wsX6_wipe := goodIn_r _ [158, 16, 159, 160, 161, 15, 162, 37, 967, 968, 969, 970, 971, 972, 1003, 1004, 1005] (by decide +kernel) (by decide +kernel)
set_option maxRecDepth 20000 in
theorem gL_law_X6_wipe : GoodIn wsL_law (wsV RL 141 RX6 yX6_wipe wsX6_wipe) := goodIn_app (goodIn_of _ (by decide +kernel)) ggL_law_X6_wipe
set_option maxRecDepth 20000 in
theorem ggL_law_X7_wipe : GoodIn wsL_law wsX7_wipe := goodIn_r _ [166, 139, 167, 168, 169, 5, 170, 150, 973, 974, 975, 976, 977, 978, 979, 980, 981, 982, 983, 984, 985, 986, 987, 988, 989, 990, 991, 992, 993, 994, 995, 996, 997, 998, 999, 1000, 1001, 1002] (by decide +kernel) (by decide +kernel)
set_option maxRecDepth 20000 in
theorem gL_law_X7_wipe : GoodIn wsL_law (wsV RL 144 RX7 yX7_wipe wsX7_wipe) := goodIn_app (goodIn_of _ (by decide +kernel)) ggL_law_X7_wipe
set_option maxRecDepth 20000 in
theorem ggL_law_L_write : GoodIn wsL_law wsL_write := goodIn_ca (goodIn_ca (goodIn_r _ [173, 109, 110, 174, 175, 176, 2, 177, 117, 118, 16, 21, 30, 178, 179, 180, 115, 116, 181, 182, 183, 15, 184, 37, 36, 185, 186, 187, 20, 188, 55, 189, 190, 191, 192, 41, 42, 43, 44, 193, 45, 194, 46, 53, 54, 195, 196, 197, 198, 35, 199, 200, 201, 202, 203, 204, 205, 52, 206, 59, 207, 60, 208, 159, 160, 161, 162, 967, 968, 969, 970, 971, 972, 1003, 1004, 1005, 1006, 1007, 1008, 1009, 1010, 1011, 1012, 1013, 1014, 1015, 1016, 1026, 1027] (by decide +kernel) (by decide +kernel)) (goodIn_sub (fun _ h => List.mem_append_left _ (List.mem_append_right _ h)) (by decide +kernel))) (goodIn_sub (fun _ h => List.mem_append_left _ (List.mem_append_left _ (List.mem_append_right _ h))) (by decide +kernel))
set_option maxRecDepth 20000 in
theorem gL_law_L_write : GoodIn wsL_law (va_wsS RL 145 yL_write wsL_write) := goodIn_app (goodIn_of _ (by decide +kernel)) ggL_law_L_write
set_option maxRecDepth 20000 in
theorem ggL_law_X7_write : GoodIn wsL_law wsX7_write := goodIn_r _ [212, 139, 213, 81, 82, 214, 215, 216, 5, 217, 140, 141, 142, 146, 147, 148, 149, 150, 218, 219, 220, 221, 83, 222, 84, 85, 89, 90, 223, 224, 225, 226, 86, 87, 88, 973, 974, 975, 976, 977, 978, 979, 980, 981, 982, 983, 984, 985, 986, 987, 988, 989, 990, 991, 992, 993, 994, 995, 996, 997, 998, 999, 1000, 1001, 1002] (by decide +kernel) (by decide +kernel)
set_option maxRecDepth 20000 in
theorem gL_law_X7_write : GoodIn wsL_law (wsV RL 148 RX7 yX7_write wsX7_write) := goodIn_app (goodIn_of _ (by decide +kernel)) ggL_law_X7_write
set_option maxRecDepth 20000 in
theorem ggL_law_L_reverse : GoodIn wsL_law wsL_reverse := goodIn_ca (goodIn_ca (goodIn_r _ [229, 108, 110, 230, 231, 232, 2, 233, 117, 118, 21, 17, 30, 234, 235, 236, 237, 122, 123, 238, 239, 240, 241, 20, 242, 54, 46, 48, 243, 244, 245, 246, 53, 247, 248, 249, 52, 250, 59, 251, 252, 253, 254, 60, 185, 186, 187, 188, 55, 255, 256, 257, 258, 44, 45, 42, 259, 160, 161, 15, 162, 37, 260, 261, 132, 133, 134, 35, 36, 262, 190, 191, 192, 41, 43, 193, 194, 195, 196, 197, 198, 199, 200, 201, 202, 203, 204, 205, 206, 207, 208, 967, 968, 969, 970, 971, 972, 1006, 1007, 1008, 1009, 1010, 1011, 1012, 1013, 1014, 1015, 1016, 1026, 1027, 1003, 1004, 1005] (by decide +kernel) (by decide +kernel)) (goodIn_sub (fun _ h => List.mem_append_left _ (List.mem_append_right _ h)) (by decide +kernel))) (goodIn_sub (fun _ h => List.mem_append_right _ h) (by decide +kernel))
set_option maxRecDepth 20000 in
theorem gL_law_L_reverse : GoodIn wsL_law (va_wsS RL 149 yL_reverse wsL_reverse) := goodIn_app (goodIn_of _ (by decide +kernel)) ggL_law_L_reverse
set_option maxRecDepth 20000 in
theorem ggL_law_X7_reverse : GoodIn wsL_law wsX7_reverse := goodIn_r _ [266, 90, 91, 213, 84, 85, 86, 87, 267, 268, 269, 5, 270, 140, 141, 142, 271, 272, 273, 274, 89, 88, 146, 147, 148, 149, 150, 218, 219, 220, 221, 83, 222, 223, 224, 225, 226, 973, 974, 975, 976, 977, 978, 979, 980, 981, 982, 983, 984, 985, 986, 987, 988, 989, 990, 991, 992, 993, 994, 995, 996, 997, 998, 999, 1000, 1001, 1002] (by decide +kernel) (by decide +kernel)
set_option maxRecDepth 20000 in
theorem gL_law_X7_reverse : GoodIn wsL_law (wsV RL 151 RX7 yX7_reverse wsX7_reverse) := goodIn_app (goodIn_of _ (by decide +kernel)) ggL_law_X7_reverse
set_option maxRecDepth 20000 in
theorem ggL_law_L_pass : GoodIn wsL_law wsL_pass := goodIn_ca (goodIn_ca (goodIn_r _ [277, 109, 110, 278, 279, 280, 2, 281, 115, 116, 117, 118, 30, 967, 968, 969, 970, 971, 972] (by decide +kernel) (by decide +kernel)) (goodIn_sub (fun _ h => List.mem_append_left _ (List.mem_append_left _ (List.mem_append_right _ h))) (by decide +kernel))) (goodIn_sub (fun _ h => List.mem_append_left _ (List.mem_append_right _ h)) (by decide +kernel))
set_option maxRecDepth 20000 in
theorem gL_law_L_pass : GoodIn wsL_law (va_wsS RL 152 yL_pass wsL_pass) := goodIn_app (goodIn_of _ (by decide +kernel)) ggL_law_L_pass
set_option maxRecDepth 20000 in
theorem ggL_law_X7_pass : GoodIn wsL_law wsX7_pass := goodIn_r _ [285, 222, 140, 141, 5, 142, 146, 147, 148, 149, 150, 973, 974, 975, 976, 977, 978, 979, 980, 981, 982, 983, 984, 985, 986, 987, 988, 989, 990, 991, 992, 993, 994, 995, 996, 997, 998, 999, 1000, 1001, 1002] (by decide +kernel) (by decide +kernel)
set_option maxRecDepth 20000 in
theorem gL_law_X7_pass : GoodIn wsL_law (wsV RL 154 RX7 yX7_pass wsX7_pass) := goodIn_app (goodIn_of _ (by decide +kernel)) ggL_law_X7_pass
set_option maxRecDepth 20000 in
theorem ggL_law_L_burn : GoodIn wsL_law wsL_burn := goodIn_ca (goodIn_ca (goodIn_r _ [288, 108, 109, 289, 290, 291, 2, 292, 115, 116, 21, 293, 234, 235, 236, 237, 122, 123, 238, 294, 295, 296, 52, 297, 59, 60, 967, 968, 969, 970, 971, 972, 1006, 1007, 1008, 1009, 1010, 1011, 1012, 1013, 1014, 1015, 1016, 1026, 1027] (by decide +kernel) (by decide +kernel)) (goodIn_sub (fun _ h => List.mem_append_left _ (List.mem_append_left _ (List.mem_append_right _ h))) (by decide +kernel))) (goodIn_sub (fun _ h => List.mem_append_right _ h) (by decide +kernel))
set_option maxRecDepth 20000 in
theorem gL_law_L_burn : GoodIn wsL_law (va_wsS RL 155 yL_burn wsL_burn) := goodIn_app (goodIn_of _ (by decide +kernel)) ggL_law_L_burn
set_option maxRecDepth 20000 in
theorem ggL_law_X7_burn : GoodIn wsL_law wsX7_burn := goodIn_r _ [301, 89, 267, 268, 269, 5, 270, 213, 140, 141, 142, 146, 147, 148, 149, 150, 973, 974, 975, 976, 977, 978, 979, 980, 981, 982, 983, 984, 985, 986, 987, 988, 989, 990, 991, 992, 993, 994, 995, 996, 997, 998, 999, 1000, 1001, 1002] (by decide +kernel) (by decide +kernel)
set_option maxRecDepth 20000 in
theorem gL_law_X7_burn : GoodIn wsL_law (wsV RL 157 RX7 yX7_burn wsX7_burn) := goodIn_app (goodIn_of _ (by decide +kernel)) ggL_law_X7_burn
set_option maxRecDepth 20000 in
theorem ggL_law_L_alter : GoodIn wsL_law wsL_alter := goodIn_ca (goodIn_ca (goodIn_ca (goodIn_r _ [304, 108, 109, 110, 305, 306, 307, 2, 308, 115, 116, 117, 118, 21, 293, 309, 234, 235, 236, 237, 122, 123, 238, 124, 125, 126, 310, 311, 312, 52, 313, 59, 314, 315, 316, 317, 60, 967, 968, 969, 970, 971, 972, 1006, 1007, 1008, 1009, 1010, 1011, 1012, 1013, 1014, 1015, 1016, 1026, 1027] (by decide +kernel) (by decide +kernel)) (goodIn_sub (fun _ h => List.mem_append_left _ (List.mem_append_left _ (List.mem_append_right _ h))) (by decide +kernel))) (goodIn_sub (fun _ h => List.mem_append_left _ (List.mem_append_right _ h)) (by decide +kernel))) (goodIn_sub (fun _ h => List.mem_append_right _ h) (by decide +kernel))
set_option maxRecDepth 20000 in
theorem gL_law_L_alter : GoodIn wsL_law (va_wsS RL 158 yL_alter wsL_alter) := goodIn_app (goodIn_of _ (by decide +kernel)) ggL_law_L_alter
set_option maxRecDepth 20000 in
theorem ggL_law_X7_alter : GoodIn wsL_law wsX7_alter := goodIn_r _ [321, 89, 85, 88, 140, 141, 5, 142, 267, 268, 269, 270, 213, 146, 147, 148, 149, 150, 973, 974, 975, 976, 977, 978, 979, 980, 981, 982, 983, 984, 985, 986, 987, 988, 989, 990, 991, 992, 993, 994, 995, 996, 997, 998, 999, 1000, 1001, 1002] (by decide +kernel) (by decide +kernel)
set_option maxRecDepth 20000 in
theorem gL_law_X7_alter : GoodIn wsL_law (wsV RL 161 RX7 yX7_alter wsX7_alter) := goodIn_app (goodIn_of _ (by decide +kernel)) ggL_law_X7_alter
set_option maxRecDepth 20000 in
theorem ggL_law_L_copy : GoodIn wsL_law wsL_copy := goodIn_ca (goodIn_r _ [324, 110, 325, 326, 327, 2, 328, 25, 21, 329, 330, 331, 332, 117, 118, 333, 334, 335, 24, 336, 66, 337, 338, 339, 20, 340, 55, 341, 342, 343, 344, 49, 54, 345, 311, 312, 52, 313, 59, 346, 347, 348, 349, 64, 350, 351, 352, 353, 354, 355, 356, 65, 357, 358, 359, 360, 11, 12, 361, 51, 362, 363, 364, 365, 366, 56, 57, 58, 47, 34, 60, 367, 368, 369, 370, 967, 968, 969, 970, 971, 972, 1017, 1018, 1006, 1007, 1008, 1009, 1010, 1011, 1012, 1013, 1014, 1015, 1016, 1026, 1027, 1028, 1029, 1030, 1031, 1032] (by decide +kernel) (by decide +kernel)) (goodIn_sub (fun _ h => List.mem_append_left _ (List.mem_append_right _ h)) (by decide +kernel))
set_option maxRecDepth 20000 in
theorem gL_law_L_copy : GoodIn wsL_law (va_wsS RL 162 yL_copy wsL_copy) := goodIn_app (goodIn_of _ (by decide +kernel)) ggL_law_L_copy
set_option maxRecDepth 20000 in
theorem ggL_law_X7_copy : GoodIn wsL_law wsX7_copy := goodIn_r _ [374, 375, 376, 377, 378, 5, 379, 213, 89, 146, 147, 148, 149, 150, 380, 381, 382, 383, 92, 93, 94, 95, 96, 97, 98, 88, 973, 974, 975, 976, 977, 978, 979, 980, 981, 982, 983, 984, 985, 986, 987, 988, 989, 990, 991, 992, 993, 994, 995, 996, 997, 998, 999, 1000, 1001, 1002] (by decide +kernel) (by decide +kernel)
set_option maxRecDepth 20000 in
theorem gL_law_X7_copy : GoodIn wsL_law (wsV RL 165 RX7 yX7_copy wsX7_copy) := goodIn_app (goodIn_of _ (by decide +kernel)) ggL_law_X7_copy
set_option maxRecDepth 20000 in
theorem ggL_law_L_copyFrom : GoodIn wsL_law wsL_copyFrom := goodIn_ca (goodIn_ca (goodIn_r _ [386, 108, 110, 387, 388, 389, 2, 390, 25, 21, 391, 392, 393, 394, 122, 123, 395, 396, 397, 24, 398, 66, 65, 329, 330, 331, 332, 117, 118, 333, 334, 335, 336, 337, 338, 339, 20, 340, 55, 341, 342, 343, 344, 49, 54, 345, 311, 312, 52, 313, 59, 346, 347, 348, 349, 64, 350, 351, 352, 353, 354, 355, 356, 357, 358, 359, 360, 11, 12, 361, 51, 362, 363, 364, 365, 366, 56, 57, 58, 47, 34, 60, 367, 368, 369, 370, 967, 968, 969, 970, 971, 972, 1017, 1018, 1006, 1007, 1008, 1009, 1010, 1011, 1012, 1013, 1014, 1015, 1016, 1026, 1027, 1028, 1029, 1030, 1031, 1032] (by decide +kernel) (by decide +kernel)) (goodIn_sub (fun _ h => List.mem_append_right _ h) (by decide +kernel))) (goodIn_sub (fun _ h => List.mem_append_left _ (List.mem_append_right _ h)) (by decide +kernel))
set_option maxRecDepth 20000 in
theorem gL_law_L_copyFrom : GoodIn wsL_law (va_wsS RL 166 yL_copyFrom wsL_copyFrom) := goodIn_app (goodIn_of _ (by decide +kernel)) ggL_law_L_copyFrom
set_option maxRecDepth 20000 in
theorem ggL_law_X7_copyFrom : GoodIn wsL_law wsX7_copyFrom := goodIn_r _ [402, 375, 94, 403, 404, 405, 5, 406, 95, 140, 141, 142, 376, 377, 378, 379, 213, 89, 146, 147, 148, 149, 150, 380, 381, 382, 383, 92, 93, 96, 97, 98, 88, 973, 974, 975, 976, 977, 978, 979, 980, 981, 982, 983, 984, 985, 986, 987, 988, 989, 990, 991, 992, 993, 994, 995, 996, 997, 998, 999, 1000, 1001, 1002] (by decide +kernel) (by decide +kernel)
set_option maxRecDepth 20000 in
theorem gL_law_X7_copyFrom : GoodIn wsL_law (wsV RL 168 RX7 yX7_copyFrom wsX7_copyFrom) := goodIn_app (goodIn_of _ (by decide +kernel)) ggL_law_X7_copyFrom
set_option maxRecDepth 20000 in
theorem ggL_law_L_carry : GoodIn wsL_law wsL_carry := goodIn_ca (goodIn_r _ [409, 108, 410, 411, 412, 2, 413, 414, 21, 391, 392, 393, 394, 122, 123, 25, 395, 396, 397, 24, 398, 66, 65, 415, 416, 417, 351, 418, 365, 366, 419, 362, 420, 295, 296, 52, 297, 59, 60, 1028, 1029, 1030, 1031, 1032, 967, 968, 969, 970, 971, 972, 1017, 1018, 1006, 1007, 1008, 1009, 1010, 1011, 1012, 1013, 1014, 1015, 1016, 1026, 1027] (by decide +kernel) (by decide +kernel)) (goodIn_sub (fun _ h => List.mem_append_right _ h) (by decide +kernel))
set_option maxRecDepth 20000 in
theorem gL_law_L_carry : GoodIn wsL_law (va_wsS RL 169 yL_carry wsL_carry) := goodIn_app (goodIn_of _ (by decide +kernel)) ggL_law_L_carry
set_option maxRecDepth 20000 in
theorem ggL_law_X7_carry : GoodIn wsL_law wsX7_carry := goodIn_r _ [424, 213, 89, 97, 96, 403, 404, 405, 5, 406, 375, 95, 140, 141, 142, 146, 147, 148, 149, 150, 425, 426, 427, 428, 429, 430, 431, 432, 93, 94, 973, 974, 975, 976, 977, 978, 979, 980, 981, 982, 983, 984, 985, 986, 987, 988, 989, 990, 991, 992, 993, 994, 995, 996, 997, 998, 999, 1000, 1001, 1002] (by decide +kernel) (by decide +kernel)
set_option maxRecDepth 20000 in
theorem gL_law_X7_carry : GoodIn wsL_law (wsV RL 172 RX7 yX7_carry wsX7_carry) := goodIn_app (goodIn_of _ (by decide +kernel)) ggL_law_X7_carry
set_option maxRecDepth 20000 in
theorem ggL_law_L_rot : GoodIn wsL_law wsL_rot := goodIn_ca (goodIn_r _ [435, 108, 436, 437, 438, 2, 439, 440, 391, 392, 393, 394, 122, 123, 25, 395, 396, 397, 24, 398, 66, 65, 441, 442, 443, 444, 445, 294, 295, 296, 52, 297, 59, 60, 1028, 1029, 1030, 1031, 1032, 967, 968, 969, 970, 971, 972, 1017, 1018, 1026, 1027] (by decide +kernel) (by decide +kernel)) (goodIn_sub (fun _ h => List.mem_append_right _ h) (by decide +kernel))
set_option maxRecDepth 20000 in
theorem gL_law_L_rot : GoodIn wsL_law (va_wsS RL 173 yL_rot wsL_rot) := goodIn_app (goodIn_of _ (by decide +kernel)) ggL_law_L_rot
set_option maxRecDepth 20000 in
theorem ggL_law_X7_rot : GoodIn wsL_law wsX7_rot := goodIn_r _ [449, 97, 450, 451, 452, 5, 453, 403, 404, 405, 406, 375, 95, 140, 141, 142, 267, 268, 269, 270, 213, 429, 430, 431, 432, 93, 94, 146, 147, 148, 149, 150, 973, 974, 975, 976, 977, 978, 979, 980, 981, 982, 983, 984, 985, 986, 987, 988, 989, 990, 991, 992, 993, 994, 995, 996, 997, 998, 999, 1000, 1001, 1002] (by decide +kernel) (by decide +kernel)
set_option maxRecDepth 20000 in
theorem gL_law_X7_rot : GoodIn wsL_law (wsV RL 175 RX7 yX7_rot wsX7_rot) := goodIn_app (goodIn_of _ (by decide +kernel)) ggL_law_X7_rot
set_option maxRecDepth 20000 in
theorem ggL_law_L_throwAway : GoodIn wsL_law wsL_throwAway := goodIn_ca (goodIn_ca (goodIn_r _ [456, 108, 110, 457, 458, 459, 2, 460, 117, 118, 25, 29, 21, 391, 392, 393, 394, 122, 123, 395, 396, 397, 24, 398, 66, 65, 461, 462, 463, 464, 465, 466, 467, 468, 28, 469, 470, 471, 472, 473, 311, 312, 52, 313, 59, 474, 475, 476, 477, 478, 76, 74, 75, 70, 72, 73, 479, 480, 481, 20, 482, 44, 45, 483, 484, 485, 486, 487, 488, 489, 490, 967, 968, 969, 970, 971, 972, 1017, 1018, 1028, 1029, 1030, 1031, 1032, 1026, 1027, 1006, 1007, 1008, 1009, 1010, 1011, 1012, 1013, 1014, 1015, 1016, 1019, 1020, 1021, 1022, 1023, 1024, 1025] (by decide +kernel) (by decide +kernel)) (goodIn_sub (fun _ h => List.mem_append_left _ (List.mem_append_right _ h)) (by decide +kernel))) (goodIn_sub (fun _ h => List.mem_append_right _ h) (by decide +kernel))
set_option maxRecDepth 20000 in
theorem gL_law_L_throwAway : GoodIn wsL_law (va_wsS RL 176 yL_throwAway wsL_throwAway) := goodIn_app (goodIn_of _ (by decide +kernel)) ggL_law_L_throwAway
set_option maxRecDepth 20000 in
theorem ggL_law_X7_throwAway : GoodIn wsL_law wsX7_throwAway := goodIn_r _ [494, 213, 95, 403, 404, 405, 5, 406, 375, 140, 141, 142, 495, 496, 497, 498, 92, 425, 426, 427, 428, 97, 429, 430, 431, 432, 93, 94, 499, 500, 501, 502, 503, 99, 504, 505, 506, 507, 508, 85, 100, 83, 102, 103, 86, 101, 146, 147, 148, 149, 150, 509, 510, 511, 512, 973, 974, 975, 976, 977, 978, 979, 980, 981, 982, 983, 984, 985, 986, 987, 988, 989, 990, 991, 992, 993, 994, 995, 996, 997, 998, 999, 1000, 1001, 1002] (by decide +kernel) (by decide +kernel)
set_option maxRecDepth 20000 in
theorem gL_law_X7_throwAway : GoodIn wsL_law (wsV RL 178 RX7 yX7_throwAway wsX7_throwAway) := goodIn_app (goodIn_of _ (by decide +kernel)) ggL_law_X7_throwAway
set_option maxRecDepth 20000 in
theorem ggL_law_L_restore : GoodIn wsL_law wsL_restore := goodIn_ca (goodIn_ca (goodIn_r _ [515, 108, 110, 516, 517, 518, 2, 519, 117, 118, 21, 520, 391, 392, 393, 394, 122, 123, 25, 395, 396, 397, 24, 398, 66, 65, 521, 522, 523, 351, 524, 363, 364, 525, 526, 527, 528, 365, 366, 419, 529, 362, 530, 244, 245, 20, 246, 53, 247, 248, 249, 52, 250, 59, 251, 252, 253, 254, 60, 531, 368, 369, 370, 967, 968, 969, 970, 971, 972, 1028, 1029, 1030, 1031, 1032, 1017, 1018, 1006, 1007, 1008, 1009, 1010, 1011, 1012, 1013, 1014, 1015, 1016, 1026, 1027] (by decide +kernel) (by decide +kernel)) (goodIn_sub (fun _ h => List.mem_append_left _ (List.mem_append_right _ h)) (by decide +kernel))) (goodIn_sub (fun _ h => List.mem_append_right _ h) (by decide +kernel))
set_option maxRecDepth 20000 in
theorem gL_law_L_restore : GoodIn wsL_law (va_wsS RL 179 yL_restore wsL_restore) := goodIn_app (goodIn_of _ (by decide +kernel)) ggL_law_L_restore
set_option maxRecDepth 20000 in
theorem ggL_law_X7_restore : GoodIn wsL_law wsX7_restore := goodIn_r _ [535, 213, 89, 88, 87, 92, 403, 404, 405, 5, 406, 375, 95, 140, 141, 142, 536, 537, 538, 539, 96, 146, 147, 148, 149, 150, 271, 272, 273, 274, 85, 540, 541, 542, 543, 98, 425, 426, 427, 428, 97, 429, 430, 431, 432, 93, 94, 973, 974, 975, 976, 977, 978, 979, 980, 981, 982, 983, 984, 985, 986, 987, 988, 989, 990, 991, 992, 993, 994, 995, 996, 997, 998, 999, 1000, 1001, 1002] (by decide +kernel) (by decide +kernel)
set_option maxRecDepth 20000 in
theorem gL_law_X7_restore : GoodIn wsL_law (wsV RL 181 RX7 yX7_restore wsX7_restore) := goodIn_app (goodIn_of _ (by decide +kernel)) ggL_law_X7_restore
set_option maxRecDepth 20000 in
theorem ggL_law_L_open : GoodIn wsL_law wsL_open := goodIn_ca (goodIn_r _ [546, 110, 547, 548, 549, 2, 550, 117, 118, 29, 551, 552, 553, 28, 554, 71, 555, 556, 557, 558, 70, 967, 968, 969, 970, 971, 972, 1019, 1020, 1021, 1022, 1023, 1024, 1025] (by decide +kernel) (by decide +kernel)) (goodIn_sub (fun _ h => List.mem_append_left _ (List.mem_append_right _ h)) (by decide +kernel))
set_option maxRecDepth 20000 in
theorem gL_law_L_open : GoodIn wsL_law (va_wsS RL 182 yL_open wsL_open) := goodIn_app (goodIn_of _ (by decide +kernel)) ggL_law_L_open
set_option maxRecDepth 20000 in
theorem ggL_law_X7_open : GoodIn wsL_law wsX7_open := goodIn_r _ [562, 503, 99, 146, 147, 148, 5, 149, 150, 973, 974, 975, 976, 977, 978, 979, 980, 981, 982, 983, 984, 985, 986, 987, 988, 989, 990, 991, 992, 993, 994, 995, 996, 997, 998, 999, 1000, 1001, 1002] (by decide +kernel) (by decide +kernel)
set_option maxRecDepth 20000 in
theorem gL_law_X7_open : GoodIn wsL_law (wsV RL 184 RX7 yX7_open wsX7_open) := goodIn_app (goodIn_of _ (by decide +kernel)) ggL_law_X7_open
set_option maxRecDepth 20000 in
theorem ggL_law_L_close : GoodIn wsL_law wsL_close := goodIn_ca (goodIn_ca (goodIn_r _ [565, 108, 110, 566, 567, 568, 2, 569, 117, 118, 29, 570, 21, 571, 572, 573, 574, 122, 123, 575, 576, 577, 578, 28, 579, 580, 474, 475, 476, 477, 478, 76, 74, 75, 70, 72, 73, 479, 480, 481, 20, 482, 44, 45, 967, 968, 969, 970, 971, 972, 1019, 1020, 1021, 1022, 1023, 1024, 1025, 1006, 1007, 1008, 1009, 1010, 1011, 1012, 1013, 1014, 1015, 1016] (by decide +kernel) (by decide +kernel)) (goodIn_sub (fun _ h => List.mem_append_left _ (List.mem_append_right _ h)) (by decide +kernel))) (goodIn_sub (fun _ h => List.mem_append_right _ h) (by decide +kernel))
set_option maxRecDepth 20000 in
theorem gL_law_L_close : GoodIn wsL_law (va_wsS RL 185 yL_close wsL_close) := goodIn_app (goodIn_of _ (by decide +kernel)) ggL_law_L_close
set_option maxRecDepth 20000 in
theorem ggL_law_X7_close : GoodIn wsL_law wsX7_close := goodIn_r _ [584, 99, 213, 585, 586, 587, 5, 588, 503, 140, 141, 142, 146, 147, 148, 149, 150, 499, 500, 501, 502, 504, 505, 506, 507, 508, 85, 100, 83, 102, 103, 86, 101, 973, 974, 975, 976, 977, 978, 979, 980, 981, 982, 983, 984, 985, 986, 987, 988, 989, 990, 991, 992, 993, 994, 995, 996, 997, 998, 999, 1000, 1001, 1002] (by decide +kernel) (by decide +kernel)
set_option maxRecDepth 20000 in
theorem gL_law_X7_close : GoodIn wsL_law (wsV RL 187 RX7 yX7_close wsX7_close) := goodIn_app (goodIn_of _ (by decide +kernel)) ggL_law_X7_close
set_option maxRecDepth 20000 in
theorem ggL_law_L_hold : GoodIn wsL_law wsL_hold := goodIn_ca (goodIn_ca (goodIn_ca (goodIn_r _ [591, 108, 109, 110, 592, 593, 594, 2, 595, 115, 116, 117, 118, 29, 570, 21, 571, 572, 573, 574, 122, 123, 575, 119, 120, 121, 596, 597, 598, 28, 599, 76, 600, 601, 602, 603, 72, 73, 74, 75, 604, 605, 606, 607, 580, 474, 475, 476, 477, 478, 70, 479, 480, 481, 20, 482, 44, 45, 967, 968, 969, 970, 971, 972, 1019, 1020, 1021, 1022, 1023, 1024, 1025, 1006, 1007, 1008, 1009, 1010, 1011, 1012, 1013, 1014, 1015, 1016] (by decide +kernel) (by decide +kernel)) (goodIn_sub (fun _ h => List.mem_append_left _ (List.mem_append_left _ (List.mem_append_right _ h))) (by decide +kernel))) (goodIn_sub (fun _ h => List.mem_append_left _ (List.mem_append_right _ h)) (by decide +kernel))) (goodIn_sub (fun _ h => List.mem_append_right _ h) (by decide +kernel))
set_option maxRecDepth 20000 in
theorem gL_law_L_hold : GoodIn wsL_law (va_wsS RL 188 yL_hold wsL_hold) := goodIn_app (goodIn_of _ (by decide +kernel)) ggL_law_L_hold
set_option maxRecDepth 20000 in
theorem ggL_law_X7_hold : GoodIn wsL_law wsX7_hold := goodIn_r _ [611, 99, 508, 100, 101, 102, 103, 213, 585, 586, 587, 5, 588, 503, 140, 141, 142, 143, 144, 145, 146, 147, 148, 149, 150, 504, 505, 506, 507, 85, 83, 86, 973, 974, 975, 976, 977, 978, 979, 980, 981, 982, 983, 984, 985, 986, 987, 988, 989, 990, 991, 992, 993, 994, 995, 996, 997, 998, 999, 1000, 1001, 1002] (by decide +kernel) (by decide +kernel)
set_option maxRecDepth 20000 in
theorem gL_law_X7_hold : GoodIn wsL_law (wsV RL 191 RX7 yX7_hold wsX7_hold) := goodIn_app (goodIn_of _ (by decide +kernel)) ggL_law_X7_hold
set_option maxRecDepth 20000 in
theorem ggL_law_L_strike : GoodIn wsL_law wsL_strike := goodIn_ca (goodIn_ca (goodIn_r _ [614, 108, 110, 615, 616, 617, 2, 618, 117, 118, 29, 21, 25, 571, 572, 573, 574, 122, 123, 575, 234, 235, 236, 237, 238, 619, 620, 621, 28, 622, 70, 623, 474, 475, 476, 477, 478, 76, 74, 75, 72, 73, 479, 480, 481, 20, 482, 44, 45, 624, 244, 245, 246, 53, 247, 248, 249, 52, 250, 59, 251, 252, 253, 254, 60, 625, 626, 627, 628, 49, 54, 629, 295, 296, 297, 630, 631, 632, 24, 633, 66, 65, 634, 355, 635, 636, 637, 638, 639, 640, 311, 312, 313, 967, 968, 969, 970, 971, 972, 1019, 1020, 1021, 1022, 1023, 1024, 1025, 1006, 1007, 1008, 1009, 1010, 1011, 1012, 1013, 1014, 1015, 1016, 1026, 1027, 1017, 1018, 1028, 1029, 1030, 1031, 1032] (by decide +kernel) (by decide +kernel)) (goodIn_sub (fun _ h => List.mem_append_left _ (List.mem_append_right _ h)) (by decide +kernel))) (goodIn_sub (fun _ h => List.mem_append_right _ h) (by decide +kernel))
set_option maxRecDepth 20000 in
theorem gL_law_L_strike : GoodIn wsL_law (va_wsS RL 192 yL_strike wsL_strike) := goodIn_app (goodIn_of _ (by decide +kernel)) ggL_law_L_strike
set_option maxRecDepth 20000 in
theorem ggL_law_X7_strike : GoodIn wsL_law wsX7_strike := goodIn_r _ [644, 89, 375, 96, 97, 95, 585, 586, 587, 5, 588, 503, 140, 141, 142, 267, 268, 269, 270, 213, 645, 646, 647, 648, 99, 271, 272, 273, 274, 85, 88, 87, 499, 500, 501, 502, 504, 505, 506, 507, 508, 100, 83, 102, 103, 86, 101, 146, 147, 148, 149, 150, 429, 430, 431, 432, 93, 94, 425, 426, 427, 428, 973, 974, 975, 976, 977, 978, 979, 980, 981, 982, 983, 984, 985, 986, 987, 988, 989, 990, 991, 992, 993, 994, 995, 996, 997, 998, 999, 1000, 1001, 1002] (by decide +kernel) (by decide +kernel)
set_option maxRecDepth 20000 in
theorem gL_law_X7_strike : GoodIn wsL_law (wsV RL 194 RX7 yX7_strike wsX7_strike) := goodIn_app (goodIn_of _ (by decide +kernel)) ggL_law_X7_strike
set_option maxRecDepth 20000 in
theorem ggL_law_X6_day : GoodIn wsL_law wsX6_day := goodIn_r _ [652, 30, 967, 968, 969, 970, 971, 972] (by decide +kernel) (by decide +kernel)
set_option maxRecDepth 20000 in
theorem gL_law_X6_day : GoodIn wsL_law (wsV RL 195 RX6 yX6_day wsX6_day) := goodIn_app (goodIn_of _ (by decide +kernel)) ggL_law_X6_day
set_option maxRecDepth 20000 in
theorem ggL_law_X7_day : GoodIn wsL_law wsX7_day := goodIn_r _ [656, 222, 167, 168, 169, 5, 170, 150, 973, 974, 975, 976, 977, 978, 979, 980, 981, 982, 983, 984, 985, 986, 987, 988, 989, 990, 991, 992, 993, 994, 995, 996, 997, 998, 999, 1000, 1001, 1002] (by decide +kernel) (by decide +kernel)
set_option maxRecDepth 20000 in
theorem gL_law_X7_day : GoodIn wsL_law (wsV RL 198 RX7 yX7_day wsX7_day) := goodIn_app (goodIn_of _ (by decide +kernel)) ggL_law_X7_day
set_option maxRecDepth 20000 in
theorem ggL_law_X6_pages : GoodIn wsL_law wsX6_pages := goodIn_r _ [660, 21, 238, 967, 968, 969, 970, 971, 972, 1006, 1007, 1008, 1009, 1010, 1011, 1012, 1013, 1014, 1015, 1016] (by decide +kernel) (by decide +kernel)
set_option maxRecDepth 20000 in
theorem gL_law_X6_pages : GoodIn wsL_law (wsV RL 199 RX6 yX6_pages wsX6_pages) := goodIn_app (goodIn_of _ (by decide +kernel)) ggL_law_X6_pages
set_option maxRecDepth 20000 in
theorem ggL_law_X7_pages : GoodIn wsL_law wsX7_pages := goodIn_r _ [664, 213, 167, 168, 169, 5, 170, 150, 973, 974, 975, 976, 977, 978, 979, 980, 981, 982, 983, 984, 985, 986, 987, 988, 989, 990, 991, 992, 993, 994, 995, 996, 997, 998, 999, 1000, 1001, 1002] (by decide +kernel) (by decide +kernel)
set_option maxRecDepth 20000 in
theorem gL_law_X7_pages : GoodIn wsL_law (wsV RL 202 RX7 yX7_pages wsX7_pages) := goodIn_app (goodIn_of _ (by decide +kernel)) ggL_law_X7_pages
set_option maxRecDepth 20000 in
theorem ggL_law_L_state : GoodIn wsL_law wsL_state := goodIn_ca (goodIn_r _ [667, 108, 668, 669, 670, 2, 671, 21, 234, 235, 236, 237, 122, 123, 238, 672, 342, 343, 20, 344, 49, 54, 345, 311, 312, 52, 313, 59, 967, 968, 969, 970, 971, 972, 1006, 1007, 1008, 1009, 1010, 1011, 1012, 1013, 1014, 1015, 1016, 1026, 1027] (by decide +kernel) (by decide +kernel)) (goodIn_sub (fun _ h => List.mem_append_right _ h) (by decide +kernel))
set_option maxRecDepth 20000 in
theorem gL_law_L_state : GoodIn wsL_law (va_wsS RL 203 yL_state wsL_state) := goodIn_app (goodIn_of _ (by decide +kernel)) ggL_law_L_state
set_option maxRecDepth 20000 in
theorem ggL_law_X7_state : GoodIn wsL_law wsX7_state := goodIn_r _ [676, 89, 677, 678, 679, 5, 680, 267, 268, 269, 270, 213, 140, 141, 142, 146, 147, 148, 149, 150, 973, 974, 975, 976, 977, 978, 979, 980, 981, 982, 983, 984, 985, 986, 987, 988, 989, 990, 991, 992, 993, 994, 995, 996, 997, 998, 999, 1000, 1001, 1002] (by decide +kernel) (by decide +kernel)
set_option maxRecDepth 20000 in
theorem gL_law_X7_state : GoodIn wsL_law (wsV RL 205 RX7 yX7_state wsX7_state) := goodIn_app (goodIn_of _ (by decide +kernel)) ggL_law_X7_state
set_option maxRecDepth 20000 in
theorem ggL_law_L_isTrue : GoodIn wsL_law wsL_isTrue := goodIn_ca (goodIn_r _ [683, 108, 684, 685, 686, 2, 687, 21, 293, 234, 235, 236, 237, 122, 123, 238, 688, 244, 245, 20, 246, 53, 247, 248, 249, 52, 250, 59, 251, 252, 253, 254, 60, 967, 968, 969, 970, 971, 972, 1006, 1007, 1008, 1009, 1010, 1011, 1012, 1013, 1014, 1015, 1016, 1026, 1027] (by decide +kernel) (by decide +kernel)) (goodIn_sub (fun _ h => List.mem_append_right _ h) (by decide +kernel))
set_option maxRecDepth 20000 in
theorem gL_law_L_isTrue : GoodIn wsL_law (va_wsS RL 206 yL_isTrue wsL_isTrue) := goodIn_app (goodIn_of _ (by decide +kernel)) ggL_law_L_isTrue
set_option maxRecDepth 20000 in
theorem ggL_law_X7_isTrue : GoodIn wsL_law wsX7_isTrue := goodIn_r _ [692, 677, 678, 679, 5, 680, 267, 268, 269, 270, 213, 140, 141, 142, 146, 147, 148, 149, 150, 271, 272, 273, 274, 89, 85, 88, 87, 973, 974, 975, 976, 977, 978, 979, 980, 981, 982, 983, 984, 985, 986, 987, 988, 989, 990, 991, 992, 993, 994, 995, 996, 997, 998, 999, 1000, 1001, 1002] (by decide +kernel) (by decide +kernel)
set_option maxRecDepth 20000 in
theorem gL_law_X7_isTrue : GoodIn wsL_law (wsV RL 208 RX7 yX7_isTrue wsX7_isTrue) := goodIn_app (goodIn_of _ (by decide +kernel)) ggL_law_X7_isTrue
set_option maxRecDepth 20000 in
theorem ggL_law_L_text : GoodIn wsL_law wsL_text := goodIn_ca (goodIn_r _ [695, 108, 696, 697, 698, 2, 699, 21, 293, 700, 234, 235, 236, 237, 122, 123, 238, 310, 311, 312, 52, 313, 59, 967, 968, 969, 970, 971, 972, 1006, 1007, 1008, 1009, 1010, 1011, 1012, 1013, 1014, 1015, 1016, 1026, 1027] (by decide +kernel) (by decide +kernel)) (goodIn_sub (fun _ h => List.mem_append_right _ h) (by decide +kernel))
set_option maxRecDepth 20000 in
theorem gL_law_L_text : GoodIn wsL_law (va_wsS RL 209 yL_text wsL_text) := goodIn_app (goodIn_of _ (by decide +kernel)) ggL_law_L_text
set_option maxRecDepth 20000 in
theorem ggL_law_X7_text : GoodIn wsL_law wsX7_text := goodIn_r _ [704, 89, 84, 677, 678, 679, 5, 680, 267, 268, 269, 270, 213, 140, 141, 142, 146, 147, 148, 149, 150, 973, 974, 975, 976, 977, 978, 979, 980, 981, 982, 983, 984, 985, 986, 987, 988, 989, 990, 991, 992, 993, 994, 995, 996, 997, 998, 999, 1000, 1001, 1002] (by decide +kernel) (by decide +kernel)
set_option maxRecDepth 20000 in
theorem gL_law_X7_text : GoodIn wsL_law (wsV RL 211 RX7 yX7_text wsX7_text) := goodIn_app (goodIn_of _ (by decide +kernel)) ggL_law_X7_text
set_option maxRecDepth 20000 in
theorem ggL_law_L_mark : GoodIn wsL_law wsL_mark := goodIn_ca (goodIn_r _ [707, 108, 708, 709, 710, 2, 711, 21, 712, 234, 235, 236, 237, 122, 123, 238, 967, 968, 969, 970, 971, 972, 1006, 1007, 1008, 1009, 1010, 1011, 1012, 1013, 1014, 1015, 1016] (by decide +kernel) (by decide +kernel)) (goodIn_sub (fun _ h => List.mem_append_right _ h) (by decide +kernel))
set_option maxRecDepth 20000 in
theorem gL_law_L_mark : GoodIn wsL_law (va_wsS RL 212 yL_mark wsL_mark) := goodIn_app (goodIn_of _ (by decide +kernel)) ggL_law_L_mark
set_option maxRecDepth 20000 in
theorem ggL_law_X7_mark : GoodIn wsL_law wsX7_mark := goodIn_r _ [716, 677, 678, 679, 5, 680, 267, 268, 269, 270, 213, 140, 141, 142, 146, 147, 148, 149, 150, 717, 718, 719, 720, 83, 84, 85, 86, 87, 721, 722, 723, 724, 973, 974, 975, 976, 977, 978, 979, 980, 981, 982, 983, 984, 985, 986, 987, 988, 989, 990, 991, 992, 993, 994, 995, 996, 997, 998, 999, 1000, 1001, 1002] (by decide +kernel) (by decide +kernel)
set_option maxRecDepth 20000 in
theorem gL_law_X7_mark : GoodIn wsL_law (wsV RL 214 RX7 yX7_mark wsX7_mark) := goodIn_app (goodIn_of _ (by decide +kernel)) ggL_law_X7_mark
set_option maxRecDepth 20000 in
theorem ggL_law_L_reversal : GoodIn wsL_law wsL_reversal := goodIn_ca (goodIn_r _ [727, 108, 728, 729, 730, 2, 731, 21, 732, 234, 235, 236, 237, 122, 123, 238, 967, 968, 969, 970, 971, 972, 1006, 1007, 1008, 1009, 1010, 1011, 1012, 1013, 1014, 1015, 1016] (by decide +kernel) (by decide +kernel)) (goodIn_sub (fun _ h => List.mem_append_right _ h) (by decide +kernel))
set_option maxRecDepth 20000 in
theorem gL_law_L_reversal : GoodIn wsL_law (va_wsS RL 215 yL_reversal wsL_reversal) := goodIn_app (goodIn_of _ (by decide +kernel)) ggL_law_L_reversal
set_option maxRecDepth 20000 in
theorem ggL_law_X7_reversal : GoodIn wsL_law wsX7_reversal := goodIn_r _ [736, 90, 677, 678, 679, 5, 680, 267, 268, 269, 270, 213, 140, 141, 142, 146, 147, 148, 149, 150, 973, 974, 975, 976, 977, 978, 979, 980, 981, 982, 983, 984, 985, 986, 987, 988, 989, 990, 991, 992, 993, 994, 995, 996, 997, 998, 999, 1000, 1001, 1002] (by decide +kernel) (by decide +kernel)
set_option maxRecDepth 20000 in
theorem gL_law_X7_reversal : GoodIn wsL_law (wsV RL 217 RX7 yX7_reversal wsX7_reversal) := goodIn_app (goodIn_of _ (by decide +kernel)) ggL_law_X7_reversal
set_option maxRecDepth 20000 in
theorem ggL_law_L_proves : GoodIn wsL_law wsL_proves := goodIn_ca (goodIn_ca (goodIn_r _ [739, 108, 109, 740, 741, 742, 2, 743, 16, 21, 744, 712, 234, 235, 236, 237, 122, 123, 238, 178, 179, 180, 115, 116, 745, 196, 197, 15, 198, 37, 35, 36, 199, 200, 201, 202, 967, 968, 969, 970, 971, 972, 1006, 1007, 1008, 1009, 1010, 1011, 1012, 1013, 1014, 1015, 1016, 1003, 1004, 1005] (by decide +kernel) (by decide +kernel)) (goodIn_sub (fun _ h => List.mem_append_right _ h) (by decide +kernel))) (goodIn_sub (fun _ h => List.mem_append_left _ (List.mem_append_left _ (List.mem_append_right _ h))) (by decide +kernel))
set_option maxRecDepth 20000 in
theorem gL_law_L_proves : GoodIn wsL_law (va_wsS RL 218 yL_proves wsL_proves) := goodIn_app (goodIn_of _ (by decide +kernel)) ggL_law_L_proves
set_option maxRecDepth 20000 in
theorem ggL_law_X7_proves : GoodIn wsL_law wsX7_proves := goodIn_r _ [749, 83, 139, 81, 82, 267, 268, 269, 5, 270, 213, 140, 141, 142, 146, 147, 148, 149, 150, 721, 722, 723, 724, 717, 718, 719, 720, 84, 85, 86, 87, 973, 974, 975, 976, 977, 978, 979, 980, 981, 982, 983, 984, 985, 986, 987, 988, 989, 990, 991, 992, 993, 994, 995, 996, 997, 998, 999, 1000, 1001, 1002] (by decide +kernel) (by decide +kernel)
set_option maxRecDepth 20000 in
theorem gL_law_X7_proves : GoodIn wsL_law (wsV RL 220 RX7 yX7_proves wsX7_proves) := goodIn_app (goodIn_of _ (by decide +kernel)) ggL_law_X7_proves
set_option maxRecDepth 20000 in
theorem ggL_law_L_proven : GoodIn wsL_law wsL_proven := goodIn_ca (goodIn_r _ [752, 108, 753, 754, 755, 2, 756, 21, 757, 758, 234, 235, 236, 237, 122, 123, 238, 119, 120, 121, 759, 760, 761, 20, 762, 44, 45, 260, 252, 253, 52, 254, 60, 967, 968, 969, 970, 971, 972, 1006, 1007, 1008, 1009, 1010, 1011, 1012, 1013, 1014, 1015, 1016, 1026, 1027] (by decide +kernel) (by decide +kernel)) (goodIn_sub (fun _ h => List.mem_append_right _ h) (by decide +kernel))
set_option maxRecDepth 20000 in
theorem gL_law_L_proven : GoodIn wsL_law (va_wsS RL 221 yL_proven wsL_proven) := goodIn_app (goodIn_of _ (by decide +kernel)) ggL_law_L_proven
set_option maxRecDepth 20000 in
theorem ggL_law_X7_proven : GoodIn wsL_law wsX7_proven := goodIn_r _ [766, 89, 267, 268, 269, 5, 270, 213, 140, 141, 142, 143, 144, 145, 146, 147, 148, 149, 150, 767, 768, 769, 770, 85, 87, 88, 86, 973, 974, 975, 976, 977, 978, 979, 980, 981, 982, 983, 984, 985, 986, 987, 988, 989, 990, 991, 992, 993, 994, 995, 996, 997, 998, 999, 1000, 1001, 1002] (by decide +kernel) (by decide +kernel)
set_option maxRecDepth 20000 in
theorem gL_law_X7_proven : GoodIn wsL_law (wsV RL 223 RX7 yX7_proven wsX7_proven) := goodIn_app (goodIn_of _ (by decide +kernel)) ggL_law_X7_proven
set_option maxRecDepth 20000 in
theorem ggL_law_L_balance : GoodIn wsL_law wsL_balance := goodIn_ca (goodIn_ca (goodIn_r _ [773, 108, 109, 774, 775, 776, 2, 777, 21, 758, 119, 120, 121, 122, 123, 778, 779, 780, 781, 115, 116, 30, 782, 783, 784, 20, 785, 55, 41, 759, 760, 761, 762, 44, 45, 260, 252, 253, 52, 254, 60, 967, 968, 969, 970, 971, 972, 1006, 1007, 1008, 1009, 1010, 1011, 1012, 1013, 1014, 1015, 1016, 1026, 1027] (by decide +kernel) (by decide +kernel)) (goodIn_sub (fun _ h => List.mem_append_right _ h) (by decide +kernel))) (goodIn_sub (fun _ h => List.mem_append_left _ (List.mem_append_left _ (List.mem_append_right _ h))) (by decide +kernel))
set_option maxRecDepth 20000 in
theorem gL_law_L_balance : GoodIn wsL_law (va_wsS RL 224 yL_balance wsL_balance) := goodIn_app (goodIn_of _ (by decide +kernel)) ggL_law_L_balance
set_option maxRecDepth 20000 in
theorem ggL_law_X7_balance : GoodIn wsL_law wsX7_balance := goodIn_r _ [789, 790, 791, 792, 5, 793, 222, 143, 144, 145, 140, 141, 142, 146, 147, 148, 149, 150, 794, 795, 796, 797, 213, 83, 767, 768, 769, 770, 85, 87, 88, 86, 973, 974, 975, 976, 977, 978, 979, 980, 981, 982, 983, 984, 985, 986, 987, 988, 989, 990, 991, 992, 993, 994, 995, 996, 997, 998, 999, 1000, 1001, 1002] (by decide +kernel) (by decide +kernel)
set_option maxRecDepth 20000 in
theorem gL_law_X7_balance : GoodIn wsL_law (wsV RL 226 RX7 yX7_balance wsX7_balance) := goodIn_app (goodIn_of _ (by decide +kernel)) ggL_law_X7_balance
set_option maxRecDepth 20000 in
theorem ggL_law_L_balanceByPages : GoodIn wsL_law wsL_balanceByPages := goodIn_ca (goodIn_ca (goodIn_ca (goodIn_r _ [800, 108, 109, 110, 801, 802, 803, 2, 804, 117, 118, 21, 758, 293, 119, 120, 121, 122, 123, 778, 779, 780, 781, 115, 116, 30, 782, 783, 784, 20, 785, 55, 41, 672, 342, 343, 344, 49, 54, 345, 311, 312, 52, 313, 59, 759, 760, 761, 762, 44, 45, 260, 252, 253, 254, 60, 967, 968, 969, 970, 971, 972, 1006, 1007, 1008, 1009, 1010, 1011, 1012, 1013, 1014, 1015, 1016, 1026, 1027] (by decide +kernel) (by decide +kernel)) (goodIn_sub (fun _ h => List.mem_append_left _ (List.mem_append_right _ h)) (by decide +kernel))) (goodIn_sub (fun _ h => List.mem_append_right _ h) (by decide +kernel))) (goodIn_sub (fun _ h => List.mem_append_left _ (List.mem_append_left _ (List.mem_append_right _ h))) (by decide +kernel))
set_option maxRecDepth 20000 in
theorem gL_law_L_balanceByPages : GoodIn wsL_law (va_wsS RL 227 yL_balanceByPages wsL_balanceByPages) := goodIn_app (goodIn_of _ (by decide +kernel)) ggL_law_L_balanceByPages
set_option maxRecDepth 20000 in
theorem ggL_law_X7_balanceByPages : GoodIn wsL_law wsX7_balanceByPages := goodIn_r _ [808, 213, 83, 89, 790, 791, 792, 5, 793, 222, 143, 144, 145, 140, 141, 142, 146, 147, 148, 149, 150, 767, 768, 769, 770, 85, 87, 88, 86, 973, 974, 975, 976, 977, 978, 979, 980, 981, 982, 983, 984, 985, 986, 987, 988, 989, 990, 991, 992, 993, 994, 995, 996, 997, 998, 999, 1000, 1001, 1002] (by decide +kernel) (by decide +kernel)
set_option maxRecDepth 20000 in
theorem gL_law_X7_balanceByPages : GoodIn wsL_law (wsV RL 229 RX7 yX7_balanceByPages wsX7_balanceByPages) := goodIn_app (goodIn_of _ (by decide +kernel)) ggL_law_X7_balanceByPages
set_option maxRecDepth 20000 in
theorem ggL_law_L_balanceByCopies : GoodIn wsL_law wsL_balanceByCopies := goodIn_ca (goodIn_ca (goodIn_ca (goodIn_r _ [811, 108, 109, 110, 812, 813, 814, 2, 815, 117, 118, 21, 758, 119, 120, 121, 122, 123, 778, 779, 780, 781, 115, 116, 30, 782, 783, 784, 20, 785, 55, 41, 816, 817, 818, 819, 25, 757, 293, 820, 821, 822, 24, 823, 66, 65, 634, 355, 824, 244, 245, 246, 53, 247, 248, 249, 52, 250, 59, 251, 252, 253, 254, 60, 688, 759, 760, 761, 762, 44, 45, 260, 967, 968, 969, 970, 971, 972, 1006, 1007, 1008, 1009, 1010, 1011, 1012, 1013, 1014, 1015, 1016, 1017, 1018, 1028, 1029, 1030, 1031, 1032, 1026, 1027] (by decide +kernel) (by decide +kernel)) (goodIn_sub (fun _ h => List.mem_append_left _ (List.mem_append_right _ h)) (by decide +kernel))) (goodIn_sub (fun _ h => List.mem_append_right _ h) (by decide +kernel))) (goodIn_sub (fun _ h => List.mem_append_left _ (List.mem_append_left _ (List.mem_append_right _ h))) (by decide +kernel))
set_option maxRecDepth 20000 in
theorem gL_law_L_balanceByCopies : GoodIn wsL_law (va_wsS RL 230 yL_balanceByCopies wsL_balanceByCopies) := goodIn_app (goodIn_of _ (by decide +kernel)) ggL_law_L_balanceByCopies
set_option maxRecDepth 20000 in
theorem ggL_law_X7_balanceByCopies : GoodIn wsL_law wsX7_balanceByCopies := goodIn_r _ [828, 213, 83, 89, 790, 791, 792, 5, 793, 222, 143, 144, 145, 140, 141, 142, 146, 147, 148, 149, 150, 271, 272, 273, 274, 85, 88, 87, 829, 830, 831, 832, 375, 95, 96, 540, 541, 542, 543, 98, 425, 426, 427, 428, 97, 429, 430, 431, 432, 93, 94, 794, 795, 796, 797, 767, 768, 769, 770, 86, 973, 974, 975, 976, 977, 978, 979, 980, 981, 982, 983, 984, 985, 986, 987, 988, 989, 990, 991, 992, 993, 994, 995, 996, 997, 998, 999, 1000, 1001, 1002] (by decide +kernel) (by decide +kernel)
set_option maxRecDepth 20000 in
theorem gL_law_X7_balanceByCopies : GoodIn wsL_law (wsV RL 232 RX7 yX7_balanceByCopies wsX7_balanceByCopies) := goodIn_app (goodIn_of _ (by decide +kernel)) ggL_law_X7_balanceByCopies
set_option maxRecDepth 20000 in
theorem ggL_law_X6_copies : GoodIn wsL_law wsX6_copies := goodIn_r _ [836, 25, 487, 488, 489, 24, 490, 66, 65, 967, 968, 969, 970, 971, 972, 1017, 1018] (by decide +kernel) (by decide +kernel)
set_option maxRecDepth 20000 in
theorem gL_law_X6_copies : GoodIn wsL_law (wsV RL 233 RX6 yX6_copies wsX6_copies) := goodIn_app (goodIn_of _ (by decide +kernel)) ggL_law_X6_copies
set_option maxRecDepth 20000 in
theorem ggL_law_X7_copies : GoodIn wsL_law wsX7_copies := goodIn_r _ [840, 509, 510, 511, 5, 512, 375, 95, 167, 168, 169, 170, 150, 973, 974, 975, 976, 977, 978, 979, 980, 981, 982, 983, 984, 985, 986, 987, 988, 989, 990, 991, 992, 993, 994, 995, 996, 997, 998, 999, 1000, 1001, 1002] (by decide +kernel) (by decide +kernel)
set_option maxRecDepth 20000 in
theorem gL_law_X7_copies : GoodIn wsL_law (wsV RL 236 RX7 yX7_copies wsX7_copies) := goodIn_app (goodIn_of _ (by decide +kernel)) ggL_law_X7_copies
set_option maxRecDepth 20000 in
theorem ggL_law_L_size : GoodIn wsL_law wsL_size := goodIn_ca (goodIn_r _ [843, 108, 844, 845, 846, 2, 847, 445, 444, 391, 392, 393, 394, 122, 123, 25, 395, 396, 397, 24, 398, 66, 65, 1028, 1029, 1030, 1031, 1032, 967, 968, 969, 970, 971, 972, 1017, 1018] (by decide +kernel) (by decide +kernel)) (goodIn_sub (fun _ h => List.mem_append_right _ h) (by decide +kernel))
set_option maxRecDepth 20000 in
theorem gL_law_L_size : GoodIn wsL_law (va_wsS RL 237 yL_size wsL_size) := goodIn_app (goodIn_of _ (by decide +kernel)) ggL_law_L_size
set_option maxRecDepth 20000 in
theorem ggL_law_X7_size : GoodIn wsL_law wsX7_size := goodIn_r _ [851, 94, 93, 852, 853, 854, 5, 855, 403, 404, 405, 406, 375, 95, 140, 141, 142, 146, 147, 148, 149, 150, 973, 974, 975, 976, 977, 978, 979, 980, 981, 982, 983, 984, 985, 986, 987, 988, 989, 990, 991, 992, 993, 994, 995, 996, 997, 998, 999, 1000, 1001, 1002] (by decide +kernel) (by decide +kernel)
set_option maxRecDepth 20000 in
theorem gL_law_X7_size : GoodIn wsL_law (wsV RL 239 RX7 yX7_size wsX7_size) := goodIn_app (goodIn_of _ (by decide +kernel)) ggL_law_X7_size
set_option maxRecDepth 20000 in
theorem ggL_law_L_isInVault : GoodIn wsL_law wsL_isInVault := goodIn_ca (goodIn_r _ [858, 108, 859, 860, 861, 2, 862, 414, 391, 392, 393, 394, 122, 123, 25, 395, 396, 397, 24, 398, 66, 65, 1028, 1029, 1030, 1031, 1032, 967, 968, 969, 970, 971, 972, 1017, 1018] (by decide +kernel) (by decide +kernel)) (goodIn_sub (fun _ h => List.mem_append_right _ h) (by decide +kernel))
set_option maxRecDepth 20000 in
theorem gL_law_L_isInVault : GoodIn wsL_law (va_wsS RL 240 yL_isInVault wsL_isInVault) := goodIn_app (goodIn_of _ (by decide +kernel)) ggL_law_L_isInVault
set_option maxRecDepth 20000 in
theorem ggL_law_X7_isInVault : GoodIn wsL_law wsX7_isInVault := goodIn_r _ [866, 96, 852, 853, 854, 5, 855, 403, 404, 405, 406, 375, 95, 140, 141, 142, 146, 147, 148, 149, 150, 973, 974, 975, 976, 977, 978, 979, 980, 981, 982, 983, 984, 985, 986, 987, 988, 989, 990, 991, 992, 993, 994, 995, 996, 997, 998, 999, 1000, 1001, 1002] (by decide +kernel) (by decide +kernel)
set_option maxRecDepth 20000 in
theorem gL_law_X7_isInVault : GoodIn wsL_law (wsV RL 242 RX7 yX7_isInVault wsX7_isInVault) := goodIn_app (goodIn_of _ (by decide +kernel)) ggL_law_X7_isInVault
set_option maxRecDepth 20000 in
theorem ggL_law_L_stands : GoodIn wsL_law wsL_stands := goodIn_ca (goodIn_r _ [869, 108, 870, 871, 872, 2, 873, 440, 391, 392, 393, 394, 122, 123, 25, 395, 396, 397, 24, 398, 66, 65, 441, 442, 443, 444, 445, 310, 311, 312, 52, 313, 59, 1028, 1029, 1030, 1031, 1032, 967, 968, 969, 970, 971, 972, 1017, 1018, 1026, 1027] (by decide +kernel) (by decide +kernel)) (goodIn_sub (fun _ h => List.mem_append_right _ h) (by decide +kernel))
set_option maxRecDepth 20000 in
theorem gL_law_L_stands : GoodIn wsL_law (va_wsS RL 243 yL_stands wsL_stands) := goodIn_app (goodIn_of _ (by decide +kernel)) ggL_law_L_stands
set_option maxRecDepth 20000 in
theorem ggL_law_X7_stands : GoodIn wsL_law wsX7_stands := goodIn_r _ [877, 450, 451, 452, 5, 453, 403, 404, 405, 406, 375, 95, 140, 141, 142, 267, 268, 269, 270, 213, 429, 430, 431, 432, 93, 94, 146, 147, 148, 149, 150, 425, 426, 427, 428, 97, 973, 974, 975, 976, 977, 978, 979, 980, 981, 982, 983, 984, 985, 986, 987, 988, 989, 990, 991, 992, 993, 994, 995, 996, 997, 998, 999, 1000, 1001, 1002] (by decide +kernel) (by decide +kernel)
set_option maxRecDepth 20000 in
theorem gL_law_X7_stands : GoodIn wsL_law (wsV RL 245 RX7 yX7_stands wsX7_stands) := goodIn_app (goodIn_of _ (by decide +kernel)) ggL_law_X7_stands
set_option maxRecDepth 20000 in
theorem ggL_law_L_copiesOf : GoodIn wsL_law wsL_copiesOf := goodIn_ca (goodIn_r _ [880, 108, 881, 882, 883, 2, 884, 25, 234, 235, 236, 237, 122, 123, 21, 238, 885, 637, 638, 24, 639, 66, 65, 355, 640, 311, 312, 52, 313, 59, 967, 968, 969, 970, 971, 972, 1006, 1007, 1008, 1009, 1010, 1011, 1012, 1013, 1014, 1015, 1016, 1017, 1018, 1028, 1029, 1030, 1031, 1032, 1026, 1027] (by decide +kernel) (by decide +kernel)) (goodIn_sub (fun _ h => List.mem_append_right _ h) (by decide +kernel))
set_option maxRecDepth 20000 in
theorem gL_law_L_copiesOf : GoodIn wsL_law (va_wsS RL 246 yL_copiesOf wsL_copiesOf) := goodIn_app (goodIn_of _ (by decide +kernel)) ggL_law_L_copiesOf
set_option maxRecDepth 20000 in
theorem ggL_law_X7_copiesOf : GoodIn wsL_law wsX7_copiesOf := goodIn_r _ [889, 375, 95, 677, 678, 679, 5, 680, 267, 268, 269, 270, 213, 140, 141, 142, 146, 147, 148, 149, 150, 425, 426, 427, 428, 97, 429, 430, 431, 432, 93, 94, 973, 974, 975, 976, 977, 978, 979, 980, 981, 982, 983, 984, 985, 986, 987, 988, 989, 990, 991, 992, 993, 994, 995, 996, 997, 998, 999, 1000, 1001, 1002] (by decide +kernel) (by decide +kernel)
set_option maxRecDepth 20000 in
theorem gL_law_X7_copiesOf : GoodIn wsL_law (wsV RL 248 RX7 yX7_copiesOf wsX7_copiesOf) := goodIn_app (goodIn_of _ (by decide +kernel)) ggL_law_X7_copiesOf
set_option maxRecDepth 20000 in
theorem ggL_law_L_canRestore : GoodIn wsL_law wsL_canRestore := goodIn_ca (goodIn_r _ [892, 108, 893, 894, 895, 2, 896, 391, 392, 393, 394, 122, 123, 25, 395, 396, 397, 24, 398, 66, 65, 521, 522, 523, 351, 524, 363, 364, 967, 968, 969, 970, 971, 972, 1017, 1018, 1028, 1029, 1030, 1031, 1032] (by decide +kernel) (by decide +kernel)) (goodIn_sub (fun _ h => List.mem_append_right _ h) (by decide +kernel))
set_option maxRecDepth 20000 in
theorem gL_law_L_canRestore : GoodIn wsL_law (va_wsS RL 249 yL_canRestore wsL_canRestore) := goodIn_app (goodIn_of _ (by decide +kernel)) ggL_law_L_canRestore
set_option maxRecDepth 20000 in
theorem ggL_law_X7_canRestore : GoodIn wsL_law wsX7_canRestore := goodIn_r _ [900, 852, 853, 854, 5, 855, 403, 404, 405, 406, 375, 95, 140, 141, 142, 146, 147, 148, 149, 150, 536, 537, 538, 539, 96, 92, 973, 974, 975, 976, 977, 978, 979, 980, 981, 982, 983, 984, 985, 986, 987, 988, 989, 990, 991, 992, 993, 994, 995, 996, 997, 998, 999, 1000, 1001, 1002] (by decide +kernel) (by decide +kernel)
set_option maxRecDepth 20000 in
theorem gL_law_X7_canRestore : GoodIn wsL_law (wsV RL 251 RX7 yX7_canRestore wsX7_canRestore) := goodIn_app (goodIn_of _ (by decide +kernel)) ggL_law_X7_canRestore
set_option maxRecDepth 20000 in
theorem ggL_law_X6_gaps : GoodIn wsL_law wsX6_gaps := goodIn_r _ [904, 21, 337, 338, 339, 20, 340, 55, 341, 342, 343, 344, 49, 54, 345, 311, 312, 52, 313, 59, 967, 968, 969, 970, 971, 972, 1006, 1007, 1008, 1009, 1010, 1011, 1012, 1013, 1014, 1015, 1016, 1026, 1027] (by decide +kernel) (by decide +kernel)
set_option maxRecDepth 20000 in
theorem gL_law_X6_gaps : GoodIn wsL_law (wsV RL 252 RX6 yX6_gaps wsX6_gaps) := goodIn_app (goodIn_of _ (by decide +kernel)) ggL_law_X6_gaps
set_option maxRecDepth 20000 in
theorem ggL_law_X7_gaps : GoodIn wsL_law wsX7_gaps := goodIn_r _ [908, 376, 377, 378, 5, 379, 213, 89, 167, 168, 169, 170, 150, 973, 974, 975, 976, 977, 978, 979, 980, 981, 982, 983, 984, 985, 986, 987, 988, 989, 990, 991, 992, 993, 994, 995, 996, 997, 998, 999, 1000, 1001, 1002] (by decide +kernel) (by decide +kernel)
set_option maxRecDepth 20000 in
theorem gL_law_X7_gaps : GoodIn wsL_law (wsV RL 255 RX7 yX7_gaps wsX7_gaps) := goodIn_app (goodIn_of _ (by decide +kernel)) ggL_law_X7_gaps
set_option maxRecDepth 20000 in
theorem ggL_law_X6_lost : GoodIn wsL_law wsX6_lost := goodIn_r _ [912, 21, 238, 25, 672, 342, 343, 20, 344, 49, 54, 345, 311, 312, 52, 313, 59, 820, 821, 822, 24, 823, 66, 65, 634, 355, 824, 244, 245, 246, 53, 247, 248, 249, 250, 251, 252, 253, 254, 60, 967, 968, 969, 970, 971, 972, 1006, 1007, 1008, 1009, 1010, 1011, 1012, 1013, 1014, 1015, 1016, 1026, 1027, 1017, 1018, 1028, 1029, 1030, 1031, 1032] (by decide +kernel) (by decide +kernel)
set_option maxRecDepth 20000 in
theorem gL_law_X6_lost : GoodIn wsL_law (wsV RL 256 RX6 yX6_lost wsX6_lost) := goodIn_app (goodIn_of _ (by decide +kernel)) ggL_law_X6_lost
set_option maxRecDepth 20000 in
theorem ggL_law_X7_lost : GoodIn wsL_law wsX7_lost := goodIn_r _ [916, 213, 89, 829, 830, 831, 5, 832, 375, 95, 96, 540, 541, 542, 543, 85, 98, 87, 425, 426, 427, 428, 97, 429, 430, 431, 432, 93, 94, 167, 168, 169, 170, 150, 973, 974, 975, 976, 977, 978, 979, 980, 981, 982, 983, 984, 985, 986, 987, 988, 989, 990, 991, 992, 993, 994, 995, 996, 997, 998, 999, 1000, 1001, 1002] (by decide +kernel) (by decide +kernel)
set_option maxRecDepth 20000 in
theorem gL_law_X7_lost : GoodIn wsL_law (wsV RL 259 RX7 yX7_lost wsX7_lost) := goodIn_app (goodIn_of _ (by decide +kernel)) ggL_law_X7_lost
set_option maxRecDepth 20000 in
theorem ggL_law_L_audit : GoodIn wsL_law wsL_audit := goodIn_ca (goodIn_r _ [919, 108, 920, 921, 922, 2, 923, 444, 445, 440, 21, 293, 391, 392, 393, 394, 122, 123, 25, 395, 396, 397, 24, 398, 66, 65, 924, 248, 249, 52, 250, 59, 251, 252, 253, 254, 60, 1028, 1029, 1030, 1031, 1032, 967, 968, 969, 970, 971, 972, 1006, 1007, 1008, 1009, 1010, 1011, 1012, 1013, 1014, 1015, 1016, 1017, 1018, 1026, 1027] (by decide +kernel) (by decide +kernel)) (goodIn_sub (fun _ h => List.mem_append_right _ h) (by decide +kernel))
set_option maxRecDepth 20000 in
theorem gL_law_L_audit : GoodIn wsL_law (va_wsS RL 260 yL_audit wsL_audit) := goodIn_app (goodIn_of _ (by decide +kernel)) ggL_law_L_audit
set_option maxRecDepth 20000 in
theorem ggL_law_X7_audit : GoodIn wsL_law wsX7_audit := goodIn_r _ [928, 93, 94, 89, 97, 85, 98, 88, 852, 853, 854, 5, 855, 403, 404, 405, 406, 375, 95, 140, 141, 142, 146, 147, 148, 149, 150, 973, 974, 975, 976, 977, 978, 979, 980, 981, 982, 983, 984, 985, 986, 987, 988, 989, 990, 991, 992, 993, 994, 995, 996, 997, 998, 999, 1000, 1001, 1002] (by decide +kernel) (by decide +kernel)
set_option maxRecDepth 20000 in
theorem gL_law_X7_audit : GoodIn wsL_law (wsV RL 262 RX7 yX7_audit wsX7_audit) := goodIn_app (goodIn_of _ (by decide +kernel)) ggL_law_X7_audit
set_option maxRecDepth 20000 in
theorem ggL_law_L_isOpen : GoodIn wsL_law wsL_isOpen := goodIn_ca (goodIn_r _ [931, 108, 932, 933, 934, 2, 935, 29, 570, 571, 572, 573, 574, 122, 123, 575, 967, 968, 969, 970, 971, 972, 1019, 1020, 1021, 1022, 1023, 1024, 1025] (by decide +kernel) (by decide +kernel)) (goodIn_sub (fun _ h => List.mem_append_right _ h) (by decide +kernel))
set_option maxRecDepth 20000 in
theorem gL_law_L_isOpen : GoodIn wsL_law (va_wsS RL 263 yL_isOpen wsL_isOpen) := goodIn_app (goodIn_of _ (by decide +kernel)) ggL_law_L_isOpen
set_option maxRecDepth 20000 in
theorem ggL_law_X7_isOpen : GoodIn wsL_law wsX7_isOpen := goodIn_r _ [939, 99, 940, 941, 942, 5, 943, 585, 586, 587, 588, 503, 140, 141, 142, 146, 147, 148, 149, 150, 973, 974, 975, 976, 977, 978, 979, 980, 981, 982, 983, 984, 985, 986, 987, 988, 989, 990, 991, 992, 993, 994, 995, 996, 997, 998, 999, 1000, 1001, 1002] (by decide +kernel) (by decide +kernel)
set_option maxRecDepth 20000 in
theorem gL_law_X7_isOpen : GoodIn wsL_law (wsV RL 265 RX7 yX7_isOpen wsX7_isOpen) := goodIn_app (goodIn_of _ (by decide +kernel)) ggL_law_X7_isOpen
set_option maxRecDepth 20000 in
theorem ggL_law_L_holders : GoodIn wsL_law wsL_holders := goodIn_ca (goodIn_r _ [946, 108, 947, 948, 949, 2, 950, 29, 21, 234, 235, 236, 237, 122, 123, 238, 951, 475, 476, 28, 477, 478, 76, 74, 75, 70, 72, 73, 479, 480, 481, 20, 482, 44, 45, 967, 968, 969, 970, 971, 972, 1006, 1007, 1008, 1009, 1010, 1011, 1012, 1013, 1014, 1015, 1016, 1019, 1020, 1021, 1022, 1023, 1024, 1025] (by decide +kernel) (by decide +kernel)) (goodIn_sub (fun _ h => List.mem_append_right _ h) (by decide +kernel))
set_option maxRecDepth 20000 in
theorem gL_law_L_holders : GoodIn wsL_law (va_wsS RL 266 yL_holders wsL_holders) := goodIn_app (goodIn_of _ (by decide +kernel)) ggL_law_L_holders
set_option maxRecDepth 20000 in
theorem ggL_law_X7_holders : GoodIn wsL_law wsX7_holders := goodIn_r _ [955, 677, 678, 679, 5, 680, 267, 268, 269, 270, 213, 140, 141, 142, 146, 147, 148, 149, 150, 499, 500, 501, 502, 503, 99, 504, 505, 506, 507, 508, 85, 100, 83, 102, 103, 86, 101, 973, 974, 975, 976, 977, 978, 979, 980, 981, 982, 983, 984, 985, 986, 987, 988, 989, 990, 991, 992, 993, 994, 995, 996, 997, 998, 999, 1000, 1001, 1002] (by decide +kernel) (by decide +kernel)
set_option maxRecDepth 20000 in
theorem gL_law_X7_holders : GoodIn wsL_law (wsV RL 268 RX7 yX7_holders wsX7_holders) := goodIn_app (goodIn_of _ (by decide +kernel)) ggL_law_X7_holders
set_option maxRecDepth 20000 in
theorem ggL_law_L_canStrike : GoodIn wsL_law wsL_canStrike := goodIn_ca (goodIn_r _ [958, 108, 959, 960, 961, 2, 962, 29, 21, 571, 572, 573, 574, 122, 123, 575, 234, 235, 236, 237, 238, 619, 620, 621, 28, 622, 70, 623, 474, 475, 476, 477, 478, 76, 74, 75, 72, 73, 479, 480, 481, 20, 482, 44, 45, 624, 244, 245, 246, 53, 247, 248, 249, 52, 250, 59, 251, 252, 253, 254, 60, 967, 968, 969, 970, 971, 972, 1019, 1020, 1021, 1022, 1023, 1024, 1025, 1006, 1007, 1008, 1009, 1010, 1011, 1012, 1013, 1014, 1015, 1016, 1026, 1027] (by decide +kernel) (by decide +kernel)) (goodIn_sub (fun _ h => List.mem_append_right _ h) (by decide +kernel))
set_option maxRecDepth 20000 in
theorem gL_law_L_canStrike : GoodIn wsL_law (va_wsS RL 269 yL_canStrike wsL_canStrike) := goodIn_app (goodIn_of _ (by decide +kernel)) ggL_law_L_canStrike
set_option maxRecDepth 20000 in
theorem ggL_law_X7_canStrike : GoodIn wsL_law wsX7_canStrike := goodIn_r _ [966, 585, 586, 587, 5, 588, 503, 140, 141, 142, 267, 268, 269, 270, 213, 146, 147, 148, 149, 150, 645, 646, 647, 648, 99, 271, 272, 273, 274, 89, 85, 88, 87, 499, 500, 501, 502, 504, 505, 506, 507, 508, 100, 83, 102, 103, 86, 101, 973, 974, 975, 976, 977, 978, 979, 980, 981, 982, 983, 984, 985, 986, 987, 988, 989, 990, 991, 992, 993, 994, 995, 996, 997, 998, 999, 1000, 1001, 1002] (by decide +kernel) (by decide +kernel)
set_option maxRecDepth 20000 in
theorem gL_law_X7_canStrike : GoodIn wsL_law (wsV RL 271 RX7 yX7_canStrike wsX7_canStrike) := goodIn_app (goodIn_of _ (by decide +kernel)) ggL_law_X7_canStrike
theorem dL_law_0 : decode cL_law 0 = .ok (.new 8, 3) := by decide +kernel
theorem dL_law_3 : decode cL_law 3 = .ok (.dup, 1) := by decide +kernel
theorem dL_law_4 : decode cL_law 4 = .ok (.invokespecial 128, 3) := by decide +kernel
theorem dL_law_7 : decode cL_law 7 = .ok (.astore_n 1, 1) := by decide +kernel
theorem dL_law_8 : decode cL_law 8 = .ok (.new 129, 3) := by decide +kernel
theorem dL_law_11 : decode cL_law 11 = .ok (.dup, 1) := by decide +kernel
theorem dL_law_12 : decode cL_law 12 = .ok (.invokespecial 131, 3) := by decide +kernel
theorem dL_law_15 : decode cL_law 15 = .ok (.astore_n 2, 1) := by decide +kernel
theorem dL_law_16 : decode cL_law 16 = .ok (.iconst 1, 1) := by decide +kernel
theorem dL_law_17 : decode cL_law 17 = .ok (.newarray .long, 2) := by decide +kernel
theorem dL_law_19 : decode cL_law 19 = .ok (.astore_n 3, 1) := by decide +kernel
theorem dL_law_20 : decode cL_law 20 = .ok (.iconst 0, 1) := by decide +kernel
theorem dL_law_21 : decode cL_law 21 = .ok (.istore 4, 2) := by decide +kernel
theorem dL_law_23 : decode cL_law 23 = .ok (.iload 4, 2) := by decide +kernel
theorem dL_law_25 : decode cL_law 25 = .ok (.aload_n 0, 1) := by decide +kernel
theorem dL_law_26 : decode cL_law 26 = .ok (.arraylength, 1) := by decide +kernel
theorem dL_law_27 : decode cL_law 27 = .ok (.iconst 5, 1) := by decide +kernel
theorem dL_law_28 : decode cL_law 28 = .ok (.isub, 1) := by decide +kernel
theorem dL_law_29 : decode cL_law 29 = .ok (.if_icmp .gt 2483, 3) := by decide +kernel
theorem dL_law_32 : decode cL_law 32 = .ok (.aload_n 0, 1) := by decide +kernel
theorem dL_law_33 : decode cL_law 33 = .ok (.iload 4, 2) := by decide +kernel
theorem dL_law_35 : decode cL_law 35 = .ok (.iaload, 1) := by decide +kernel
theorem dL_law_36 : decode cL_law 36 = .ok (.bipush 63, 2) := by decide +kernel
theorem dL_law_38 : decode cL_law 38 = .ok (.iand, 1) := by decide +kernel
theorem dL_law_39 : decode cL_law 39 = .ok (.tableswitch 2467 0 40 #[177, 245, 258, 314, 370, 426, 494, 574, 618, 674, 758, 833, 889, 945, 989, 1045, 1137, 1205, 1218, 1231, 1287, 1350, 1406, 1462, 1518, 1593, 1661, 1729, 1797, 1865, 1878, 1934, 1997, 2072, 2128, 2191, 2204, 2217, 2273, 2336, 2392], 177) := by decide +kernel
theorem dL_law_216 : decode cL_law 216 = .ok (.aload_n 1, 1) := by decide +kernel
theorem dL_law_217 : decode cL_law 217 = .ok (.aload_n 0, 1) := by decide +kernel
theorem dL_law_218 : decode cL_law 218 = .ok (.iload 4, 2) := by decide +kernel
theorem dL_law_220 : decode cL_law 220 = .ok (.iconst 1, 1) := by decide +kernel
theorem dL_law_221 : decode cL_law 221 = .ok (.iadd, 1) := by decide +kernel
theorem dL_law_222 : decode cL_law 222 = .ok (.iaload, 1) := by decide +kernel
theorem dL_law_223 : decode cL_law 223 = .ok (.aload_n 0, 1) := by decide +kernel
theorem dL_law_224 : decode cL_law 224 = .ok (.iload 4, 2) := by decide +kernel
theorem dL_law_226 : decode cL_law 226 = .ok (.iconst 2, 1) := by decide +kernel
theorem dL_law_227 : decode cL_law 227 = .ok (.iadd, 1) := by decide +kernel
theorem dL_law_228 : decode cL_law 228 = .ok (.iaload, 1) := by decide +kernel
theorem dL_law_229 : decode cL_law 229 = .ok (.aload_n 3, 1) := by decide +kernel
theorem dL_law_230 : decode cL_law 230 = .ok (.invokestatic 132, 3) := by decide +kernel
theorem dL_law_233 : decode cL_law 233 = .ok (.istore 5, 2) := by decide +kernel
theorem dL_law_235 : decode cL_law 235 = .ok (.aload_n 2, 1) := by decide +kernel
theorem dL_law_236 : decode cL_law 236 = .ok (.aload_n 0, 1) := by decide +kernel
theorem dL_law_237 : decode cL_law 237 = .ok (.iload 4, 2) := by decide +kernel
theorem dL_law_239 : decode cL_law 239 = .ok (.iconst 1, 1) := by decide +kernel
theorem dL_law_240 : decode cL_law 240 = .ok (.iadd, 1) := by decide +kernel
theorem dL_law_241 : decode cL_law 241 = .ok (.iaload, 1) := by decide +kernel
theorem dL_law_242 : decode cL_law 242 = .ok (.aload_n 0, 1) := by decide +kernel
theorem dL_law_243 : decode cL_law 243 = .ok (.iload 4, 2) := by decide +kernel
theorem dL_law_245 : decode cL_law 245 = .ok (.iconst 2, 1) := by decide +kernel
theorem dL_law_246 : decode cL_law 246 = .ok (.iadd, 1) := by decide +kernel
theorem dL_law_247 : decode cL_law 247 = .ok (.iaload, 1) := by decide +kernel
theorem dL_law_248 : decode cL_law 248 = .ok (.invokevirtual 137, 3) := by decide +kernel
theorem dL_law_251 : decode cL_law 251 = .ok (.istore 6, 2) := by decide +kernel
theorem dL_law_253 : decode cL_law 253 = .ok (.aload_n 2, 1) := by decide +kernel
theorem dL_law_254 : decode cL_law 254 = .ok (.invokevirtual 138, 3) := by decide +kernel
theorem dL_law_257 : decode cL_law 257 = .ok (.iload 5, 2) := by decide +kernel
theorem dL_law_259 : decode cL_law 259 = .ok (.if_icmp .eq 5, 3) := by decide +kernel
theorem dL_law_262 : decode cL_law 262 = .ok (.iconst 0, 1) := by decide +kernel
theorem dL_law_263 : decode cL_law 263 = .ok (.ireturn, 1) := by decide +kernel
theorem dL_law_264 : decode cL_law 264 = .ok (.iload 5, 2) := by decide +kernel
theorem dL_law_266 : decode cL_law 266 = .ok (.ifCond .ne 15, 3) := by decide +kernel
theorem dL_law_269 : decode cL_law 269 = .ok (.aload_n 3, 1) := by decide +kernel
theorem dL_law_270 : decode cL_law 270 = .ok (.iconst 0, 1) := by decide +kernel
theorem dL_law_271 : decode cL_law 271 = .ok (.laload, 1) := by decide +kernel
theorem dL_law_272 : decode cL_law 272 = .ok (.iload 6, 2) := by decide +kernel
theorem dL_law_274 : decode cL_law 274 = .ok (.i2l, 1) := by decide +kernel
