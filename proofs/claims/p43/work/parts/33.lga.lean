set_option maxRecDepth 20000 in
theorem ggL_law_X4_init : GoodIn wsL_law wsX4_init := goodIn_r _ [10, 11, 12, 13, 14, 15, 16, 17, 18, 247, 248, 249, 250, 251, 252, 253, 254, 255] (by decide +kernel) (by decide +kernel)
set_option maxRecDepth 20000 in
theorem gL_law_X4_init : GoodIn wsL_law (wsX4_init) := ggL_law_X4_init
set_option maxRecDepth 20000 in
theorem ggL_law_L_in : GoodIn wsL_law wsL_in := goodIn_r _ [22, 23, 24, 25, 21, 26, 27, 28] (by decide +kernel) (by decide +kernel)
set_option maxRecDepth 20000 in
theorem gL_law_L_in : GoodIn wsL_law (va_wsS RL 68 yL_in wsL_in) := goodIn_app (goodIn_of _ (by decide +kernel)) ggL_law_L_in
set_option maxRecDepth 20000 in
theorem ggL_law_L_draw : GoodIn wsL_law wsL_draw := goodIn_ca (goodIn_ca (goodIn_r _ [31, 32, 33, 3, 4, 34, 35, 36, 2, 37, 38, 39, 40, 15, 14, 41, 42, 43, 44, 45, 46, 47, 48, 49, 50, 51, 12, 13, 5, 52, 53, 54, 55, 56, 57, 58, 59, 247, 248, 249, 250, 251, 252, 253, 254, 255, 256, 257] (by decide +kernel) (by decide +kernel)) (goodIn_sub (fun _ h => List.mem_append_left _ (List.mem_append_left _ (List.mem_append_left _ (List.mem_append_left _ (List.mem_append_right _ h))))) (by decide +kernel))) (goodIn_sub (fun _ h => List.mem_append_left _ (List.mem_append_left _ (List.mem_append_left _ (List.mem_append_right _ h)))) (by decide +kernel))
set_option maxRecDepth 20000 in
theorem gL_law_L_draw : GoodIn wsL_law (va_wsS RL 72 yL_draw wsL_draw) := goodIn_app (goodIn_of _ (by decide +kernel)) ggL_law_L_draw
set_option maxRecDepth 20000 in
theorem ggL_law_L_bore : GoodIn wsL_law wsL_bore := goodIn_ca (goodIn_ca (goodIn_r _ [62, 63, 32, 3, 4, 64, 65, 66, 2, 67, 68, 69, 70, 71, 72, 73, 15, 43, 44, 45, 46, 47, 74, 75, 76, 42, 77, 52, 247, 248, 249, 250, 251, 252, 253, 254, 255, 256, 257] (by decide +kernel) (by decide +kernel)) (goodIn_sub (fun _ h => List.mem_append_left _ (List.mem_append_left _ (List.mem_append_right _ h))) (by decide +kernel))) (goodIn_sub (fun _ h => List.mem_append_left _ (List.mem_append_left _ (List.mem_append_left _ (List.mem_append_right _ h)))) (by decide +kernel))
set_option maxRecDepth 20000 in
theorem gL_law_L_bore : GoodIn wsL_law (va_wsS RL 75 yL_bore wsL_bore) := goodIn_app (goodIn_of _ (by decide +kernel)) ggL_law_L_bore
set_option maxRecDepth 20000 in
theorem ggL_law_L_section : GoodIn wsL_law wsL_section := goodIn_ca (goodIn_ca (goodIn_ca (goodIn_r _ [80, 63, 32, 81, 3, 4, 6, 82, 83, 84, 2, 85, 68, 69, 70, 71, 72, 73, 15, 43, 44, 45, 46, 47, 86, 87, 88, 89, 90, 74, 75, 76, 42, 77, 52, 91, 92, 93, 94, 247, 248, 249, 250, 251, 252, 253, 254, 255, 256, 257] (by decide +kernel) (by decide +kernel)) (goodIn_sub (fun _ h => List.mem_append_left _ (List.mem_append_left _ (List.mem_append_right _ h))) (by decide +kernel))) (goodIn_sub (fun _ h => List.mem_append_left _ (List.mem_append_left _ (List.mem_append_left _ (List.mem_append_right _ h)))) (by decide +kernel))) (goodIn_sub (fun _ h => List.mem_append_left _ (List.mem_append_right _ h)) (by decide +kernel))
set_option maxRecDepth 20000 in
theorem gL_law_L_section : GoodIn wsL_law (va_wsS RL 77 yL_section wsL_section) := goodIn_app (goodIn_of _ (by decide +kernel)) ggL_law_L_section
set_option maxRecDepth 20000 in
theorem ggL_law_L_widest : GoodIn wsL_law wsL_widest := goodIn_ca (goodIn_r _ [97, 63, 3, 98, 99, 100, 2, 101, 68, 69, 70, 71, 72, 73, 15, 102, 103, 104, 42, 105, 52, 106, 75, 76, 77, 247, 248, 249, 250, 251, 252, 253, 254, 255, 256, 257] (by decide +kernel) (by decide +kernel)) (goodIn_sub (fun _ h => List.mem_append_left _ (List.mem_append_left _ (List.mem_append_right _ h))) (by decide +kernel))
set_option maxRecDepth 20000 in
theorem gL_law_L_widest : GoodIn wsL_law (va_wsS RL 80 yL_widest wsL_widest) := goodIn_app (goodIn_of _ (by decide +kernel)) ggL_law_L_widest
