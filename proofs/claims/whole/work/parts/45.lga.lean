set_option maxRecDepth 20000 in
theorem ggL_law_X4_init : GoodIn wsL_law wsX4_init := goodIn_r _ [10, 11, 12, 13, 14, 15, 16, 17, 18, 1045, 1046, 1047, 1048, 1049, 1050, 1051, 1052, 1053] (by decide +kernel) (by decide +kernel)
set_option maxRecDepth 20000 in
theorem gL_law_X4_init : GoodIn wsL_law (wsX4_init) := ggL_law_X4_init
set_option maxRecDepth 20000 in
theorem ggL_law_X7_init : GoodIn wsL_law wsX7_init := goodIn_r _ [21, 22, 12, 13, 23, 24, 25, 26, 27, 28, 29, 30, 31, 32, 33, 34, 35, 36, 37, 38, 39, 40, 41, 42, 43, 1061, 1062, 1063, 1054, 1055, 1056, 1057, 1058, 1059, 1060] (by decide +kernel) (by decide +kernel)
set_option maxRecDepth 20000 in
theorem gL_law_X7_init : GoodIn wsL_law (wsX7_init) := ggL_law_X7_init
set_option maxRecDepth 20000 in
theorem ggL_law_L_draw : GoodIn wsL_law wsL_draw := goodIn_ca (goodIn_ca (goodIn_r _ [47, 48, 49, 50, 51, 52, 2, 53, 54, 55, 56, 15, 14, 57, 58, 59, 60, 61, 62, 63, 64, 65, 66, 67, 12, 13, 68, 69, 70, 71, 72, 73, 74, 75, 76, 1045, 1046, 1047, 1048, 1049, 1050, 1051, 1052, 1053, 1064, 1065] (by decide +kernel) (by decide +kernel)) (goodIn_sub (fun _ h => List.mem_append_left _ (List.mem_append_left _ (List.mem_append_left _ (List.mem_append_left _ (List.mem_append_right _ h))))) (by decide +kernel))) (goodIn_sub (fun _ h => List.mem_append_left _ (List.mem_append_left _ (List.mem_append_left _ (List.mem_append_right _ h)))) (by decide +kernel))
set_option maxRecDepth 20000 in
theorem gL_law_L_draw : GoodIn wsL_law (va_wsS RL 143 yL_draw wsL_draw) := goodIn_app (goodIn_of _ (by decide +kernel)) ggL_law_L_draw
set_option maxRecDepth 20000 in
theorem ggL_law_X7_draw : GoodIn wsL_law wsX7_draw := goodIn_r _ [80, 26, 81, 82, 83, 84, 71, 72, 73, 85, 75, 76, 86, 87, 5, 88, 89, 90, 91, 92, 93, 94, 95, 96, 25, 97, 98, 99, 100, 101, 12, 13, 68, 102, 103, 104, 105, 106, 107, 108, 33, 109, 110, 111, 112, 113, 114, 115, 116, 117, 118, 119, 120, 32, 121, 122, 123, 124, 125, 126, 127, 128, 129, 130, 131, 132, 133, 134, 135, 136, 137, 138, 139, 140, 141, 142, 143, 144, 145, 146, 147, 148, 149, 1054, 1055, 1056, 1057, 1058, 1059, 1060, 1066, 1067, 1061, 1062, 1063] (by decide +kernel) (by decide +kernel)
set_option maxRecDepth 20000 in
theorem gL_law_X7_draw : GoodIn wsL_law (wsV RL 148 RX7 yX7_draw wsX7_draw) := goodIn_app (goodIn_of _ (by decide +kernel)) ggL_law_X7_draw
set_option maxRecDepth 20000 in
theorem ggL_law_X7_thrown : GoodIn wsL_law wsX7_thrown := goodIn_r _ [153, 93, 1054, 1055, 1056, 1057, 1058, 1059, 1060] (by decide +kernel) (by decide +kernel)
set_option maxRecDepth 20000 in
theorem gL_law_X7_thrown : GoodIn wsL_law (wsV RL 149 RX7 yX7_thrown wsX7_thrown) := goodIn_app (goodIn_of _ (by decide +kernel)) ggL_law_X7_thrown
set_option maxRecDepth 20000 in
theorem ggL_law_L_section : GoodIn wsL_law wsL_section := goodIn_ca (goodIn_ca (goodIn_ca (goodIn_r _ [156, 157, 48, 158, 159, 160, 161, 2, 162, 163, 164, 165, 166, 167, 168, 15, 59, 60, 61, 62, 63, 169, 170, 171, 172, 173, 174, 175, 176, 58, 177, 69, 178, 179, 180, 181, 1045, 1046, 1047, 1048, 1049, 1050, 1051, 1052, 1053, 1064, 1065] (by decide +kernel) (by decide +kernel)) (goodIn_sub (fun _ h => List.mem_append_left _ (List.mem_append_left _ (List.mem_append_right _ h))) (by decide +kernel))) (goodIn_sub (fun _ h => List.mem_append_left _ (List.mem_append_left _ (List.mem_append_left _ (List.mem_append_right _ h)))) (by decide +kernel))) (goodIn_sub (fun _ h => List.mem_append_left _ (List.mem_append_right _ h)) (by decide +kernel))
set_option maxRecDepth 20000 in
theorem gL_law_L_section : GoodIn wsL_law (va_wsS RL 153 yL_section wsL_section) := goodIn_app (goodIn_of _ (by decide +kernel)) ggL_law_L_section
set_option maxRecDepth 20000 in
theorem ggL_law_X7_section : GoodIn wsL_law wsX7_section := goodIn_r _ [185, 26, 186, 187, 188, 189, 5, 190, 94, 95, 96, 25, 97, 98, 86, 87, 88, 89, 90, 91, 92, 93, 191, 192, 193, 194, 195, 196, 197, 198, 199, 200, 201, 202, 203, 204, 205, 206, 33, 1054, 1055, 1056, 1057, 1058, 1059, 1060, 1066, 1067, 1061, 1062, 1063] (by decide +kernel) (by decide +kernel)
set_option maxRecDepth 20000 in
theorem gL_law_X7_section : GoodIn wsL_law (wsV RL 156 RX7 yX7_section wsX7_section) := goodIn_app (goodIn_of _ (by decide +kernel)) ggL_law_X7_section
set_option maxRecDepth 20000 in
theorem ggL_law_L_bore : GoodIn wsL_law wsL_bore := goodIn_ca (goodIn_ca (goodIn_r _ [209, 157, 48, 210, 211, 212, 2, 213, 163, 164, 165, 166, 167, 168, 15, 59, 60, 61, 62, 63, 174, 175, 176, 58, 177, 69, 1045, 1046, 1047, 1048, 1049, 1050, 1051, 1052, 1053, 1064, 1065] (by decide +kernel) (by decide +kernel)) (goodIn_sub (fun _ h => List.mem_append_left _ (List.mem_append_left _ (List.mem_append_right _ h))) (by decide +kernel))) (goodIn_sub (fun _ h => List.mem_append_left _ (List.mem_append_left _ (List.mem_append_left _ (List.mem_append_right _ h)))) (by decide +kernel))
set_option maxRecDepth 20000 in
theorem gL_law_L_bore : GoodIn wsL_law (va_wsS RL 157 yL_bore wsL_bore) := goodIn_app (goodIn_of _ (by decide +kernel)) ggL_law_L_bore
set_option maxRecDepth 20000 in
theorem ggL_law_X7_bore : GoodIn wsL_law wsX7_bore := goodIn_r _ [217, 26, 186, 187, 188, 189, 5, 190, 94, 95, 96, 25, 97, 98, 86, 87, 88, 89, 90, 91, 92, 93, 191, 192, 193, 194, 195, 196, 197, 198, 199, 200, 201, 202, 203, 204, 205, 206, 33, 1054, 1055, 1056, 1057, 1058, 1059, 1060, 1066, 1067, 1061, 1062, 1063] (by decide +kernel) (by decide +kernel)
set_option maxRecDepth 20000 in
theorem gL_law_X7_bore : GoodIn wsL_law (wsV RL 159 RX7 yX7_bore wsX7_bore) := goodIn_app (goodIn_of _ (by decide +kernel)) ggL_law_X7_bore
set_option maxRecDepth 20000 in
theorem ggL_law_L_volume : GoodIn wsL_law wsL_volume := goodIn_ca (goodIn_ca (goodIn_r _ [220, 157, 48, 221, 222, 223, 2, 224, 163, 164, 165, 166, 167, 168, 15, 225, 226, 227, 59, 60, 61, 62, 63, 228, 229, 230, 58, 231, 69, 232, 233, 234, 70, 71, 72, 73, 74, 75, 76, 1045, 1046, 1047, 1048, 1049, 1050, 1051, 1052, 1053, 1064, 1065] (by decide +kernel) (by decide +kernel)) (goodIn_sub (fun _ h => List.mem_append_left _ (List.mem_append_left _ (List.mem_append_right _ h))) (by decide +kernel))) (goodIn_sub (fun _ h => List.mem_append_left _ (List.mem_append_left _ (List.mem_append_left _ (List.mem_append_right _ h)))) (by decide +kernel))
set_option maxRecDepth 20000 in
theorem gL_law_L_volume : GoodIn wsL_law (va_wsS RL 160 yL_volume wsL_volume) := goodIn_app (goodIn_of _ (by decide +kernel)) ggL_law_L_volume
set_option maxRecDepth 20000 in
theorem ggL_law_X7_volume : GoodIn wsL_law wsX7_volume := goodIn_r _ [238, 26, 186, 187, 188, 189, 5, 190, 94, 95, 96, 25, 97, 98, 86, 87, 88, 89, 90, 91, 92, 93, 239, 240, 241, 191, 192, 193, 194, 195, 196, 197, 198, 199, 200, 201, 202, 203, 204, 205, 206, 33, 242, 243, 244, 83, 245, 102, 1054, 1055, 1056, 1057, 1058, 1059, 1060, 1061, 1062, 1063, 1066, 1067] (by decide +kernel) (by decide +kernel)
set_option maxRecDepth 20000 in
theorem gL_law_X7_volume : GoodIn wsL_law (wsV RL 162 RX7 yX7_volume wsX7_volume) := goodIn_app (goodIn_of _ (by decide +kernel)) ggL_law_X7_volume
set_option maxRecDepth 20000 in
theorem ggL_law_L_thread : GoodIn wsL_law wsL_thread := goodIn_ca (goodIn_ca (goodIn_ca (goodIn_r _ [248, 157, 48, 249, 250, 251, 252, 2, 253, 254, 255, 256, 163, 164, 165, 166, 167, 168, 15, 225, 226, 227, 59, 60, 61, 62, 63, 228, 229, 230, 58, 231, 69, 232, 233, 234, 70, 71, 72, 73, 74, 75, 76, 257, 258, 259, 260, 261, 1045, 1046, 1047, 1048, 1049, 1050, 1051, 1052, 1053, 1064, 1065] (by decide +kernel) (by decide +kernel)) (goodIn_sub (fun _ h => List.mem_append_right _ h) (by decide +kernel))) (goodIn_sub (fun _ h => List.mem_append_left _ (List.mem_append_left _ (List.mem_append_right _ h))) (by decide +kernel))) (goodIn_sub (fun _ h => List.mem_append_left _ (List.mem_append_left _ (List.mem_append_left _ (List.mem_append_right _ h)))) (by decide +kernel))
set_option maxRecDepth 20000 in
theorem gL_law_L_thread : GoodIn wsL_law (va_wsS RL 163 yL_thread wsL_thread) := goodIn_app (goodIn_of _ (by decide +kernel)) ggL_law_L_thread
set_option maxRecDepth 20000 in
theorem ggL_law_X7_thread : GoodIn wsL_law wsX7_thread := goodIn_r _ [265, 266, 26, 186, 187, 188, 189, 5, 190, 94, 95, 96, 25, 97, 98, 86, 87, 88, 89, 90, 91, 92, 93, 239, 240, 241, 191, 192, 193, 194, 195, 196, 197, 198, 199, 200, 201, 202, 203, 204, 205, 206, 33, 242, 243, 244, 83, 245, 102, 1054, 1055, 1056, 1057, 1058, 1059, 1060, 1061, 1062, 1063, 1066, 1067] (by decide +kernel) (by decide +kernel)
set_option maxRecDepth 20000 in
theorem gL_law_X7_thread : GoodIn wsL_law (wsV RL 165 RX7 yX7_thread wsX7_thread) := goodIn_app (goodIn_of _ (by decide +kernel)) ggL_law_X7_thread
set_option maxRecDepth 20000 in
theorem ggL_law_L_widest : GoodIn wsL_law wsL_widest := goodIn_ca (goodIn_r _ [269, 157, 270, 271, 272, 2, 273, 163, 164, 165, 166, 167, 168, 15, 274, 275, 276, 58, 277, 69, 278, 175, 176, 177, 1045, 1046, 1047, 1048, 1049, 1050, 1051, 1052, 1053, 1064, 1065] (by decide +kernel) (by decide +kernel)) (goodIn_sub (fun _ h => List.mem_append_left _ (List.mem_append_left _ (List.mem_append_right _ h))) (by decide +kernel))
set_option maxRecDepth 20000 in
theorem gL_law_L_widest : GoodIn wsL_law (va_wsS RL 166 yL_widest wsL_widest) := goodIn_app (goodIn_of _ (by decide +kernel)) ggL_law_L_widest
set_option maxRecDepth 20000 in
theorem ggL_law_X7_widest : GoodIn wsL_law wsX7_widest := goodIn_r _ [282, 26, 186, 187, 188, 189, 5, 190, 94, 95, 96, 25, 97, 98, 86, 87, 88, 89, 90, 91, 92, 93, 191, 192, 193, 194, 195, 196, 197, 198, 199, 200, 201, 202, 203, 204, 205, 206, 33, 1054, 1055, 1056, 1057, 1058, 1059, 1060, 1066, 1067, 1061, 1062, 1063] (by decide +kernel) (by decide +kernel)
set_option maxRecDepth 20000 in
theorem gL_law_X7_widest : GoodIn wsL_law (wsV RL 169 RX7 yX7_widest wsX7_widest) := goodIn_app (goodIn_of _ (by decide +kernel)) ggL_law_X7_widest
set_option maxRecDepth 20000 in
theorem ggL_law_L_deliver : GoodIn wsL_law wsL_deliver := goodIn_ca (goodIn_ca (goodIn_r _ [285, 157, 48, 286, 287, 288, 2, 289, 62, 63, 163, 164, 165, 166, 167, 168, 15, 225, 226, 227, 59, 60, 61, 228, 229, 230, 58, 231, 69, 232, 233, 234, 70, 71, 72, 73, 74, 75, 76, 290, 291, 292, 293, 294, 295, 296, 1045, 1046, 1047, 1048, 1049, 1050, 1051, 1052, 1053, 1064, 1065] (by decide +kernel) (by decide +kernel)) (goodIn_sub (fun _ h => List.mem_append_left _ (List.mem_append_left _ (List.mem_append_left _ (List.mem_append_right _ h)))) (by decide +kernel))) (goodIn_sub (fun _ h => List.mem_append_left _ (List.mem_append_left _ (List.mem_append_right _ h))) (by decide +kernel))
set_option maxRecDepth 20000 in
theorem gL_law_L_deliver : GoodIn wsL_law (va_wsS RL 170 yL_deliver wsL_deliver) := goodIn_app (goodIn_of _ (by decide +kernel)) ggL_law_L_deliver
set_option maxRecDepth 20000 in
theorem ggL_law_X7_deliver : GoodIn wsL_law wsX7_deliver := goodIn_r _ [300, 85, 75, 72, 76, 26, 186, 187, 188, 189, 5, 190, 94, 95, 96, 25, 97, 98, 86, 87, 88, 89, 90, 91, 92, 93, 239, 240, 241, 191, 192, 193, 194, 195, 196, 197, 198, 199, 200, 201, 202, 203, 204, 205, 206, 33, 1054, 1055, 1056, 1057, 1058, 1059, 1060, 1066, 1067, 1061, 1062, 1063] (by decide +kernel) (by decide +kernel)
set_option maxRecDepth 20000 in
theorem gL_law_X7_deliver : GoodIn wsL_law (wsV RL 173 RX7 yX7_deliver wsX7_deliver) := goodIn_app (goodIn_of _ (by decide +kernel)) ggL_law_X7_deliver
set_option maxRecDepth 20000 in
theorem ggL_law_L_make : GoodIn wsL_law wsL_make := goodIn_ca (goodIn_ca (goodIn_ca (goodIn_ca (goodIn_r _ [303, 157, 48, 158, 49, 304, 305, 306, 2, 307, 54, 55, 308, 309, 17, 16, 310, 311, 163, 164, 165, 166, 167, 168, 15, 59, 60, 61, 62, 63, 312, 313, 314, 169, 170, 171, 172, 173, 315, 316, 317, 318, 12, 13, 319, 320, 321, 322, 323, 324, 325, 326, 327, 328, 329, 330, 331, 332, 333, 334, 335, 336, 68, 337, 338, 339, 340, 341, 342, 343, 344, 345, 346, 1045, 1046, 1047, 1048, 1049, 1050, 1051, 1052, 1053, 1064, 1065, 1068, 1069, 1070, 1071, 1072, 1073, 1074, 1075, 1076, 1077, 1078, 1079, 1080, 1081, 1082, 1083, 1084, 1085, 1086, 1087, 1088, 1089, 1090] (by decide +kernel) (by decide +kernel)) (goodIn_sub (fun _ h => List.mem_append_left _ (List.mem_append_left _ (List.mem_append_left _ (List.mem_append_left _ (List.mem_append_right _ h))))) (by decide +kernel))) (goodIn_sub (fun _ h => List.mem_append_left _ (List.mem_append_left _ (List.mem_append_right _ h))) (by decide +kernel))) (goodIn_sub (fun _ h => List.mem_append_left _ (List.mem_append_left _ (List.mem_append_left _ (List.mem_append_right _ h)))) (by decide +kernel))) (goodIn_sub (fun _ h => List.mem_append_left _ (List.mem_append_right _ h)) (by decide +kernel))
set_option maxRecDepth 20000 in
theorem gL_law_L_make : GoodIn wsL_law (va_wsS RL 174 yL_make wsL_make) := goodIn_app (goodIn_of _ (by decide +kernel)) ggL_law_L_make
set_option maxRecDepth 20000 in
theorem ggL_law_X7_make : GoodIn wsL_law wsX7_make := goodIn_r _ [350, 351, 26, 186, 27, 352, 353, 354, 187, 188, 189, 5, 190, 94, 95, 96, 25, 97, 98, 86, 87, 88, 89, 90, 91, 92, 93, 191, 192, 193, 194, 195, 196, 197, 198, 199, 200, 201, 202, 203, 204, 205, 206, 33, 355, 356, 357, 358, 12, 13, 359, 360, 361, 362, 363, 364, 365, 24, 366, 367, 368, 369, 370, 371, 30, 31, 32, 34, 35, 36, 37, 38, 39, 40, 41, 42, 43, 103, 104, 105, 106, 107, 108, 109, 110, 111, 112, 113, 114, 115, 116, 117, 118, 119, 120, 121, 75, 72, 76, 122, 123, 124, 125, 126, 127, 128, 129, 130, 131, 132, 133, 134, 135, 136, 137, 138, 139, 140, 141, 142, 143, 144, 145, 71, 73, 146, 147, 148, 149, 1054, 1055, 1056, 1057, 1058, 1059, 1060, 1066, 1067, 1091, 1092, 1093, 1094, 1095, 1096, 1097, 1098, 1099, 1100, 1101, 1102, 1103, 1104, 1105, 1106, 1107, 1061, 1062, 1063] (by decide +kernel) (by decide +kernel)
set_option maxRecDepth 20000 in
theorem gL_law_X7_make : GoodIn wsL_law (wsV RL 177 RX7 yX7_make wsX7_make) := goodIn_app (goodIn_of _ (by decide +kernel)) ggL_law_X7_make
set_option maxRecDepth 20000 in
theorem ggL_law_L_buy : GoodIn wsL_law wsL_buy := goodIn_ca (goodIn_r _ [374, 48, 375, 376, 377, 2, 378, 256, 379, 380, 59, 60, 61, 62, 63, 1045, 1046, 1047, 1048, 1049, 1050, 1051, 1052, 1053] (by decide +kernel) (by decide +kernel)) (goodIn_sub (fun _ h => List.mem_append_left _ (List.mem_append_left _ (List.mem_append_left _ (List.mem_append_right _ h)))) (by decide +kernel))
set_option maxRecDepth 20000 in
theorem gL_law_L_buy : GoodIn wsL_law (va_wsS RL 178 yL_buy wsL_buy) := goodIn_app (goodIn_of _ (by decide +kernel)) ggL_law_L_buy
set_option maxRecDepth 20000 in
theorem ggL_law_X7_buy : GoodIn wsL_law wsX7_buy := goodIn_r _ [384, 266, 385, 86, 87, 5, 88, 89, 90, 91, 92, 93, 1054, 1055, 1056, 1057, 1058, 1059, 1060] (by decide +kernel) (by decide +kernel)
set_option maxRecDepth 20000 in
theorem gL_law_X7_buy : GoodIn wsL_law (wsV RL 180 RX7 yX7_buy wsX7_buy) := goodIn_app (goodIn_of _ (by decide +kernel)) ggL_law_X7_buy
set_option maxRecDepth 20000 in
theorem ggL_law_L_fill : GoodIn wsL_law wsL_fill := goodIn_ca (goodIn_ca (goodIn_ca (goodIn_r _ [388, 157, 48, 158, 389, 390, 391, 2, 392, 172, 173, 393, 394, 395, 396, 167, 168, 17, 312, 313, 314, 62, 63, 225, 226, 227, 59, 60, 61, 397, 398, 399, 311, 400, 328, 401, 327, 402, 229, 230, 58, 231, 69, 232, 233, 234, 70, 71, 72, 73, 74, 75, 76, 403, 404, 405, 406, 380, 407, 408, 409, 410, 411, 323, 412, 1068, 1069, 1070, 1071, 1072, 1073, 1074, 1075, 1076, 1077, 1078, 1079, 1080, 1081, 1082, 1045, 1046, 1047, 1048, 1049, 1050, 1051, 1052, 1053, 1064, 1065] (by decide +kernel) (by decide +kernel)) (goodIn_sub (fun _ h => List.mem_append_left _ (List.mem_append_right _ h)) (by decide +kernel))) (goodIn_sub (fun _ h => List.mem_append_left _ (List.mem_append_left _ (List.mem_append_right _ h))) (by decide +kernel))) (goodIn_sub (fun _ h => List.mem_append_left _ (List.mem_append_left _ (List.mem_append_left _ (List.mem_append_right _ h)))) (by decide +kernel))
set_option maxRecDepth 20000 in
theorem gL_law_L_fill : GoodIn wsL_law (va_wsS RL 181 yL_fill wsL_fill) := goodIn_app (goodIn_of _ (by decide +kernel)) ggL_law_L_fill
set_option maxRecDepth 20000 in
theorem ggL_law_X7_fill : GoodIn wsL_law wsX7_fill := goodIn_r _ [416, 27, 417, 385, 418, 419, 420, 5, 421, 94, 95, 96, 25, 97, 98, 86, 87, 88, 89, 90, 91, 92, 93, 239, 240, 241, 191, 192, 193, 194, 195, 196, 197, 198, 199, 200, 201, 202, 203, 204, 205, 206, 33, 242, 243, 244, 83, 245, 102, 1054, 1055, 1056, 1057, 1058, 1059, 1060, 1091, 1092, 1093, 1094, 1095, 1096, 1097, 1098, 1099, 1100, 1101, 1102, 1103, 1104, 1105, 1106, 1107, 1061, 1062, 1063, 1066, 1067] (by decide +kernel) (by decide +kernel)
set_option maxRecDepth 20000 in
theorem gL_law_X7_fill : GoodIn wsL_law (wsV RL 184 RX7 yX7_fill wsX7_fill) := goodIn_app (goodIn_of _ (by decide +kernel)) ggL_law_X7_fill
set_option maxRecDepth 20000 in
theorem ggL_law_L_smash : GoodIn wsL_law wsL_smash := goodIn_ca (goodIn_ca (goodIn_r _ [424, 157, 158, 425, 426, 427, 2, 428, 172, 173, 429, 393, 394, 395, 396, 167, 168, 17, 430, 431, 432, 311, 433, 323, 412, 434, 435, 436, 437, 438, 411, 1068, 1069, 1070, 1071, 1072, 1073, 1074, 1075, 1076, 1077, 1078, 1079, 1080, 1081, 1082, 1045, 1046, 1047, 1048, 1049, 1050, 1051, 1052, 1053] (by decide +kernel) (by decide +kernel)) (goodIn_sub (fun _ h => List.mem_append_left _ (List.mem_append_right _ h)) (by decide +kernel))) (goodIn_sub (fun _ h => List.mem_append_left _ (List.mem_append_left _ (List.mem_append_right _ h))) (by decide +kernel))
set_option maxRecDepth 20000 in
theorem gL_law_L_smash : GoodIn wsL_law (va_wsS RL 185 yL_smash wsL_smash) := goodIn_app (goodIn_of _ (by decide +kernel)) ggL_law_L_smash
set_option maxRecDepth 20000 in
theorem ggL_law_X7_smash : GoodIn wsL_law wsX7_smash := goodIn_r _ [442, 27, 417, 443, 418, 419, 420, 5, 421, 94, 95, 96, 25, 97, 98, 86, 87, 88, 89, 90, 91, 92, 93, 191, 192, 193, 194, 195, 196, 197, 198, 199, 200, 201, 202, 203, 204, 205, 206, 33, 1054, 1055, 1056, 1057, 1058, 1059, 1060, 1091, 1092, 1093, 1094, 1095, 1096, 1097, 1098, 1099, 1100, 1101, 1102, 1103, 1104, 1105, 1106, 1107, 1061, 1062, 1063] (by decide +kernel) (by decide +kernel)
set_option maxRecDepth 20000 in
theorem gL_law_X7_smash : GoodIn wsL_law (wsV RL 187 RX7 yX7_smash wsX7_smash) := goodIn_app (goodIn_of _ (by decide +kernel)) ggL_law_X7_smash
set_option maxRecDepth 20000 in
theorem ggL_law_L_inside : GoodIn wsL_law wsL_inside := goodIn_ca (goodIn_r _ [446, 157, 447, 448, 449, 2, 450, 393, 394, 395, 396, 167, 168, 17, 1068, 1069, 1070, 1071, 1072, 1073, 1074, 1075, 1076, 1077, 1078, 1079, 1080, 1081, 1082, 1045, 1046, 1047, 1048, 1049, 1050, 1051, 1052, 1053] (by decide +kernel) (by decide +kernel)) (goodIn_sub (fun _ h => List.mem_append_left _ (List.mem_append_left _ (List.mem_append_right _ h))) (by decide +kernel))
set_option maxRecDepth 20000 in
theorem gL_law_L_inside : GoodIn wsL_law (va_wsS RL 188 yL_inside wsL_inside) := goodIn_app (goodIn_of _ (by decide +kernel)) ggL_law_L_inside
set_option maxRecDepth 20000 in
theorem ggL_law_X7_inside : GoodIn wsL_law wsX7_inside := goodIn_r _ [454, 27, 417, 418, 419, 420, 5, 421, 94, 95, 96, 25, 97, 98, 86, 87, 88, 89, 90, 91, 92, 93, 191, 192, 193, 194, 195, 196, 197, 198, 199, 200, 201, 202, 203, 204, 205, 206, 33, 1054, 1055, 1056, 1057, 1058, 1059, 1060, 1091, 1092, 1093, 1094, 1095, 1096, 1097, 1098, 1099, 1100, 1101, 1102, 1103, 1104, 1105, 1106, 1107, 1061, 1062, 1063] (by decide +kernel) (by decide +kernel)
set_option maxRecDepth 20000 in
theorem gL_law_X7_inside : GoodIn wsL_law (wsV RL 190 RX7 yX7_inside wsX7_inside) := goodIn_app (goodIn_of _ (by decide +kernel)) ggL_law_X7_inside
set_option maxRecDepth 20000 in
theorem ggL_law_L_crept : GoodIn wsL_law wsL_crept := goodIn_ca (goodIn_r _ [457, 157, 458, 459, 460, 2, 461, 393, 394, 395, 396, 167, 168, 17, 1068, 1069, 1070, 1071, 1072, 1073, 1074, 1075, 1076, 1077, 1078, 1079, 1080, 1081, 1082, 1045, 1046, 1047, 1048, 1049, 1050, 1051, 1052, 1053] (by decide +kernel) (by decide +kernel)) (goodIn_sub (fun _ h => List.mem_append_left _ (List.mem_append_left _ (List.mem_append_right _ h))) (by decide +kernel))
set_option maxRecDepth 20000 in
theorem gL_law_L_crept : GoodIn wsL_law (va_wsS RL 191 yL_crept wsL_crept) := goodIn_app (goodIn_of _ (by decide +kernel)) ggL_law_L_crept
set_option maxRecDepth 20000 in
theorem ggL_law_X7_crept : GoodIn wsL_law wsX7_crept := goodIn_r _ [465, 27, 417, 418, 419, 420, 5, 421, 94, 95, 96, 25, 97, 98, 86, 87, 88, 89, 90, 91, 92, 93, 191, 192, 193, 194, 195, 196, 197, 198, 199, 200, 201, 202, 203, 204, 205, 206, 33, 1054, 1055, 1056, 1057, 1058, 1059, 1060, 1091, 1092, 1093, 1094, 1095, 1096, 1097, 1098, 1099, 1100, 1101, 1102, 1103, 1104, 1105, 1106, 1107, 1061, 1062, 1063] (by decide +kernel) (by decide +kernel)
set_option maxRecDepth 20000 in
theorem gL_law_X7_crept : GoodIn wsL_law (wsV RL 193 RX7 yX7_crept wsX7_crept) := goodIn_app (goodIn_of _ (by decide +kernel)) ggL_law_X7_crept
set_option maxRecDepth 20000 in
theorem ggL_law_L_days : GoodIn wsL_law wsL_days := goodIn_ca (goodIn_ca (goodIn_r _ [468, 48, 49, 469, 470, 471, 2, 472, 54, 55, 473, 17, 59, 60, 61, 62, 63, 474, 475, 476, 311, 477, 401, 478, 479, 480, 481, 328, 329, 1045, 1046, 1047, 1048, 1049, 1050, 1051, 1052, 1053, 1068, 1069, 1070, 1071, 1072, 1073, 1074, 1075, 1076, 1077, 1078, 1079, 1080, 1081, 1082] (by decide +kernel) (by decide +kernel)) (goodIn_sub (fun _ h => List.mem_append_left _ (List.mem_append_left _ (List.mem_append_left _ (List.mem_append_left _ (List.mem_append_right _ h))))) (by decide +kernel))) (goodIn_sub (fun _ h => List.mem_append_left _ (List.mem_append_left _ (List.mem_append_left _ (List.mem_append_right _ h)))) (by decide +kernel))
set_option maxRecDepth 20000 in
theorem gL_law_L_days : GoodIn wsL_law (va_wsS RL 194 yL_days wsL_days) := goodIn_app (goodIn_of _ (by decide +kernel)) ggL_law_L_days
set_option maxRecDepth 20000 in
theorem ggL_law_X7_days : GoodIn wsL_law wsX7_days := goodIn_r _ [485, 486, 27, 417, 86, 87, 5, 88, 89, 90, 91, 92, 93, 487, 488, 489, 25, 490, 491, 492, 493, 494, 495, 496, 497, 498, 12, 13, 499, 500, 108, 501, 502, 503, 504, 505, 506, 507, 508, 509, 510, 511, 512, 513, 514, 515, 516, 517, 518, 354, 519, 369, 370, 520, 1054, 1055, 1056, 1057, 1058, 1059, 1060, 1108, 1109, 1110, 1111, 1061, 1062, 1063, 1091, 1092, 1093, 1094, 1095, 1096, 1097, 1098, 1099, 1100, 1101, 1102, 1103, 1104, 1105, 1106, 1107] (by decide +kernel) (by decide +kernel)
set_option maxRecDepth 20000 in
theorem gL_law_X7_days : GoodIn wsL_law (wsV RL 196 RX7 yX7_days wsX7_days) := goodIn_app (goodIn_of _ (by decide +kernel)) ggL_law_X7_days
set_option maxRecDepth 20000 in
theorem ggL_law_L_air : GoodIn wsL_law wsL_air := goodIn_ca (goodIn_r _ [523, 48, 524, 525, 526, 2, 527, 18, 528, 529, 530, 59, 60, 61, 62, 63, 1045, 1046, 1047, 1048, 1049, 1050, 1051, 1052, 1053] (by decide +kernel) (by decide +kernel)) (goodIn_sub (fun _ h => List.mem_append_left _ (List.mem_append_left _ (List.mem_append_left _ (List.mem_append_right _ h)))) (by decide +kernel))
set_option maxRecDepth 20000 in
theorem gL_law_L_air : GoodIn wsL_law (va_wsS RL 197 yL_air wsL_air) := goodIn_app (goodIn_of _ (by decide +kernel)) ggL_law_L_air
set_option maxRecDepth 20000 in
theorem ggL_law_X7_air : GoodIn wsL_law wsX7_air := goodIn_r _ [534, 28, 535, 536, 5, 537, 86, 87, 88, 89, 90, 91, 92, 93, 1054, 1055, 1056, 1057, 1058, 1059, 1060] (by decide +kernel) (by decide +kernel)
set_option maxRecDepth 20000 in
theorem gL_law_X7_air : GoodIn wsL_law (wsV RL 199 RX7 yX7_air wsX7_air) := goodIn_app (goodIn_of _ (by decide +kernel)) ggL_law_X7_air
set_option maxRecDepth 20000 in
theorem ggL_law_L_level : GoodIn wsL_law wsL_level := goodIn_ca (goodIn_ca (goodIn_ca (goodIn_ca (goodIn_r _ [540, 157, 48, 158, 249, 541, 542, 543, 2, 544, 393, 394, 395, 396, 167, 168, 17, 528, 529, 530, 59, 60, 61, 62, 63, 225, 226, 227, 545, 546, 547, 172, 173, 548, 549, 550, 551, 254, 255, 18, 552, 553, 554, 311, 555, 327, 556, 557, 558, 559, 412, 328, 401, 560, 561, 562, 563, 323, 564, 565, 566, 567, 568, 569, 570, 571, 329, 572, 573, 574, 58, 575, 261, 229, 230, 231, 69, 232, 233, 234, 70, 71, 72, 73, 74, 75, 76, 402, 1045, 1046, 1047, 1048, 1049, 1050, 1051, 1052, 1053, 1068, 1069, 1070, 1071, 1072, 1073, 1074, 1075, 1076, 1077, 1078, 1079, 1080, 1081, 1082, 1064, 1065] (by decide +kernel) (by decide +kernel)) (goodIn_sub (fun _ h => List.mem_append_left _ (List.mem_append_left _ (List.mem_append_right _ h))) (by decide +kernel))) (goodIn_sub (fun _ h => List.mem_append_left _ (List.mem_append_left _ (List.mem_append_left _ (List.mem_append_right _ h)))) (by decide +kernel))) (goodIn_sub (fun _ h => List.mem_append_left _ (List.mem_append_right _ h)) (by decide +kernel))) (goodIn_sub (fun _ h => List.mem_append_right _ h) (by decide +kernel))
set_option maxRecDepth 20000 in
theorem gL_law_L_level : GoodIn wsL_law (va_wsS RL 200 yL_level wsL_level) := goodIn_app (goodIn_of _ (by decide +kernel)) ggL_law_L_level
set_option maxRecDepth 20000 in
theorem ggL_law_X7_level : GoodIn wsL_law wsX7_level := goodIn_r _ [579, 27, 417, 28, 418, 419, 420, 5, 421, 94, 95, 96, 25, 97, 98, 86, 87, 88, 89, 90, 91, 92, 93, 535, 536, 537, 239, 240, 241, 580, 581, 582, 583, 191, 192, 193, 194, 195, 196, 197, 198, 199, 200, 201, 202, 203, 204, 205, 206, 33, 584, 585, 586, 354, 587, 359, 588, 589, 590, 591, 592, 593, 594, 369, 370, 520, 368, 595, 596, 597, 598, 599, 600, 601, 602, 603, 243, 244, 83, 245, 102, 1054, 1055, 1056, 1057, 1058, 1059, 1060, 1061, 1062, 1063, 1091, 1092, 1093, 1094, 1095, 1096, 1097, 1098, 1099, 1100, 1101, 1102, 1103, 1104, 1105, 1106, 1107, 1066, 1067] (by decide +kernel) (by decide +kernel)
set_option maxRecDepth 20000 in
theorem gL_law_X7_level : GoodIn wsL_law (wsV RL 202 RX7 yX7_level wsX7_level) := goodIn_app (goodIn_of _ (by decide +kernel)) ggL_law_X7_level
set_option maxRecDepth 20000 in
theorem ggL_law_L_ice : GoodIn wsL_law wsL_ice := goodIn_ca (goodIn_ca (goodIn_ca (goodIn_r _ [606, 157, 158, 249, 607, 608, 609, 2, 610, 393, 394, 395, 396, 167, 168, 17, 545, 546, 547, 172, 173, 548, 549, 550, 551, 254, 255, 18, 552, 553, 554, 311, 555, 327, 556, 557, 558, 559, 412, 328, 401, 560, 561, 562, 563, 323, 564, 565, 566, 567, 568, 569, 570, 571, 329, 572, 573, 574, 58, 575, 261, 229, 230, 231, 69, 232, 233, 234, 70, 71, 72, 73, 74, 75, 76, 402, 611, 612, 613, 332, 614, 343, 345, 1068, 1069, 1070, 1071, 1072, 1073, 1074, 1075, 1076, 1077, 1078, 1079, 1080, 1081, 1082, 1045, 1046, 1047, 1048, 1049, 1050, 1051, 1052, 1053, 1064, 1065, 1086, 1087, 1088, 1089, 1090] (by decide +kernel) (by decide +kernel)) (goodIn_sub (fun _ h => List.mem_append_left _ (List.mem_append_left _ (List.mem_append_right _ h))) (by decide +kernel))) (goodIn_sub (fun _ h => List.mem_append_left _ (List.mem_append_right _ h)) (by decide +kernel))) (goodIn_sub (fun _ h => List.mem_append_right _ h) (by decide +kernel))
set_option maxRecDepth 20000 in
theorem gL_law_L_ice : GoodIn wsL_law (va_wsS RL 203 yL_ice wsL_ice) := goodIn_app (goodIn_of _ (by decide +kernel)) ggL_law_L_ice
set_option maxRecDepth 20000 in
theorem ggL_law_X7_ice : GoodIn wsL_law wsX7_ice := goodIn_r _ [618, 27, 417, 28, 418, 419, 420, 5, 421, 94, 95, 96, 25, 97, 98, 86, 87, 88, 89, 90, 91, 92, 93, 580, 581, 582, 583, 191, 192, 193, 194, 195, 196, 197, 198, 199, 200, 201, 202, 203, 204, 205, 206, 33, 584, 585, 586, 354, 587, 359, 588, 589, 590, 591, 592, 593, 594, 369, 370, 520, 368, 595, 596, 597, 598, 599, 600, 601, 602, 603, 243, 244, 83, 245, 102, 1054, 1055, 1056, 1057, 1058, 1059, 1060, 1091, 1092, 1093, 1094, 1095, 1096, 1097, 1098, 1099, 1100, 1101, 1102, 1103, 1104, 1105, 1106, 1107, 1061, 1062, 1063, 1066, 1067] (by decide +kernel) (by decide +kernel)
set_option maxRecDepth 20000 in
theorem gL_law_X7_ice : GoodIn wsL_law (wsV RL 205 RX7 yX7_ice wsX7_ice) := goodIn_app (goodIn_of _ (by decide +kernel)) ggL_law_X7_ice
set_option maxRecDepth 20000 in
theorem ggL_law_L_steam : GoodIn wsL_law wsL_steam := goodIn_ca (goodIn_ca (goodIn_ca (goodIn_ca (goodIn_r _ [621, 157, 48, 158, 249, 622, 623, 624, 2, 625, 393, 394, 395, 396, 167, 168, 17, 626, 627, 628, 59, 60, 61, 62, 63, 545, 546, 547, 172, 173, 629, 630, 631, 548, 549, 550, 551, 254, 255, 18, 552, 553, 554, 311, 555, 327, 556, 557, 558, 559, 412, 328, 401, 560, 561, 562, 563, 323, 564, 565, 566, 567, 568, 569, 570, 571, 329, 572, 573, 574, 58, 575, 261, 229, 230, 231, 69, 232, 233, 234, 70, 71, 72, 73, 74, 75, 76, 402, 632, 633, 634, 332, 635, 344, 636, 345, 1068, 1069, 1070, 1071, 1072, 1073, 1074, 1075, 1076, 1077, 1078, 1079, 1080, 1081, 1082, 1045, 1046, 1047, 1048, 1049, 1050, 1051, 1052, 1053, 1064, 1065, 1086, 1087, 1088, 1089, 1090] (by decide +kernel) (by decide +kernel)) (goodIn_sub (fun _ h => List.mem_append_left _ (List.mem_append_left _ (List.mem_append_right _ h))) (by decide +kernel))) (goodIn_sub (fun _ h => List.mem_append_left _ (List.mem_append_left _ (List.mem_append_left _ (List.mem_append_right _ h)))) (by decide +kernel))) (goodIn_sub (fun _ h => List.mem_append_left _ (List.mem_append_right _ h)) (by decide +kernel))) (goodIn_sub (fun _ h => List.mem_append_right _ h) (by decide +kernel))
set_option maxRecDepth 20000 in
theorem gL_law_L_steam : GoodIn wsL_law (va_wsS RL 206 yL_steam wsL_steam) := goodIn_app (goodIn_of _ (by decide +kernel)) ggL_law_L_steam
set_option maxRecDepth 20000 in
theorem ggL_law_X7_steam : GoodIn wsL_law wsX7_steam := goodIn_r _ [640, 27, 417, 28, 418, 419, 420, 5, 421, 94, 95, 96, 25, 97, 98, 86, 87, 88, 89, 90, 91, 92, 93, 580, 581, 582, 583, 191, 192, 193, 194, 195, 196, 197, 198, 199, 200, 201, 202, 203, 204, 205, 206, 33, 584, 585, 586, 354, 587, 359, 588, 641, 642, 643, 589, 590, 591, 592, 593, 594, 369, 370, 520, 368, 595, 596, 597, 598, 599, 600, 601, 602, 603, 243, 244, 83, 245, 102, 1054, 1055, 1056, 1057, 1058, 1059, 1060, 1091, 1092, 1093, 1094, 1095, 1096, 1097, 1098, 1099, 1100, 1101, 1102, 1103, 1104, 1105, 1106, 1107, 1061, 1062, 1063, 1066, 1067] (by decide +kernel) (by decide +kernel)
set_option maxRecDepth 20000 in
theorem gL_law_X7_steam : GoodIn wsL_law (wsV RL 208 RX7 yX7_steam wsX7_steam) := goodIn_app (goodIn_of _ (by decide +kernel)) ggL_law_X7_steam
set_option maxRecDepth 20000 in
theorem ggL_law_L_boiling : GoodIn wsL_law wsL_boiling := goodIn_ca (goodIn_r _ [646, 48, 647, 648, 649, 2, 650, 626, 627, 628, 59, 60, 61, 62, 63, 629, 630, 631] (by decide +kernel) (by decide +kernel)) (goodIn_sub (fun _ h => List.mem_append_left _ (List.mem_append_left _ (List.mem_append_left _ (List.mem_append_right _ h)))) (by decide +kernel))
set_option maxRecDepth 20000 in
theorem gL_law_L_boiling : GoodIn wsL_law (va_wsS RL 209 yL_boiling wsL_boiling) := goodIn_app (goodIn_of _ (by decide +kernel)) ggL_law_L_boiling
set_option maxRecDepth 20000 in
theorem ggL_law_X7_boiling : GoodIn wsL_law wsX7_boiling := goodIn_r _ [654, 86, 87, 5, 88, 89, 90, 91, 92, 93, 641, 642, 643, 1054, 1055, 1056, 1057, 1058, 1059, 1060] (by decide +kernel) (by decide +kernel)
set_option maxRecDepth 20000 in
theorem gL_law_X7_boiling : GoodIn wsL_law (wsV RL 211 RX7 yX7_boiling wsX7_boiling) := goodIn_app (goodIn_of _ (by decide +kernel)) ggL_law_X7_boiling
