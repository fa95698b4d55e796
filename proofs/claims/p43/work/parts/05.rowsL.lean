theorem dL_cell_0 : decode cL_cell 0 = .ok (.ldc 7, 2) := by decide +kernel
theorem dL_cell_2 : decode cL_cell 2 = .ok (.iload_n 1, 1) := by decide +kernel
theorem dL_cell_3 : decode cL_cell 3 = .ok (.aload_n 0, 1) := by decide +kernel
theorem dL_cell_4 : decode cL_cell 4 = .ok (.arraylength, 1) := by decide +kernel
theorem dL_cell_5 : decode cL_cell 5 = .ok (.if_icmp .ge 9, 3) := by decide +kernel
theorem dL_cell_8 : decode cL_cell 8 = .ok (.aload_n 0, 1) := by decide +kernel
theorem dL_cell_9 : decode cL_cell 9 = .ok (.iload_n 1, 1) := by decide +kernel
theorem dL_cell_10 : decode cL_cell 10 = .ok (.iaload, 1) := by decide +kernel
theorem dL_cell_11 : decode cL_cell 11 = .ok (.goto 4, 3) := by decide +kernel
theorem dL_cell_14 : decode cL_cell 14 = .ok (.iconst 0, 1) := by decide +kernel
theorem dL_cell_15 : decode cL_cell 15 = .ok (.sipush 1009, 3) := by decide +kernel
theorem dL_cell_18 : decode cL_cell 18 = .ok (.iload_n 1, 1) := by decide +kernel
theorem dL_cell_19 : decode cL_cell 19 = .ok (.imul, 1) := by decide +kernel
theorem dL_cell_20 : decode cL_cell 20 = .ok (.iadd, 1) := by decide +kernel
theorem dL_cell_21 : decode cL_cell 21 = .ok (.imul, 1) := by decide +kernel
theorem dL_cell_22 : decode cL_cell 22 = .ok (.sipush 12345, 3) := by decide +kernel
theorem dL_cell_25 : decode cL_cell 25 = .ok (.iadd, 1) := by decide +kernel
theorem dL_cell_26 : decode cL_cell 26 = .ok (.istore_n 2, 1) := by decide +kernel
theorem dL_cell_27 : decode cL_cell 27 = .ok (.iload_n 2, 1) := by decide +kernel
theorem dL_cell_28 : decode cL_cell 28 = .ok (.iload_n 2, 1) := by decide +kernel
theorem dL_cell_29 : decode cL_cell 29 = .ok (.bipush 13, 2) := by decide +kernel
theorem dL_cell_31 : decode cL_cell 31 = .ok (.iushr, 1) := by decide +kernel
theorem dL_cell_32 : decode cL_cell 32 = .ok (.ixor, 1) := by decide +kernel
theorem dL_cell_33 : decode cL_cell 33 = .ok (.ldc 8, 2) := by decide +kernel
theorem dL_cell_35 : decode cL_cell 35 = .ok (.imul, 1) := by decide +kernel
theorem dL_cell_36 : decode cL_cell 36 = .ok (.istore_n 2, 1) := by decide +kernel
theorem dL_cell_37 : decode cL_cell 37 = .ok (.iload_n 2, 1) := by decide +kernel
theorem dL_cell_38 : decode cL_cell 38 = .ok (.iload_n 2, 1) := by decide +kernel
theorem dL_cell_39 : decode cL_cell 39 = .ok (.bipush 16, 2) := by decide +kernel
theorem dL_cell_41 : decode cL_cell 41 = .ok (.iushr, 1) := by decide +kernel
theorem dL_cell_42 : decode cL_cell 42 = .ok (.ixor, 1) := by decide +kernel
theorem dL_cell_43 : decode cL_cell 43 = .ok (.ireturn, 1) := by decide +kernel
set_option maxRecDepth 20000 in
theorem ggL_draw_X4_draw : GoodIn wsL_draw wsX4_draw := goodIn_ca (goodIn_ca (goodIn_r _ [9, 10, 11, 12, 13, 14, 15, 16, 17, 18, 8, 19, 20, 21, 22, 23, 24, 25, 26, 27, 28, 29, 30, 31, 32, 33, 34, 35, 36, 37, 38, 39, 40, 41, 42, 43, 44, 45, 46, 47] (by decide +kernel) (by decide +kernel)) (goodIn_sub (fun _ h => List.mem_cons_of_mem _ (List.mem_append_left _ (List.mem_append_right _ h))) (by decide +kernel))) (goodIn_sub (fun _ h => List.mem_cons_of_mem _ (List.mem_append_right _ h)) (by decide +kernel))
set_option maxRecDepth 20000 in
theorem gL_draw_X4_draw : GoodIn wsL_draw (wsV RL 9 RX4 yX4_draw wsX4_draw) := goodIn_app (goodIn_of _ (by decide +kernel)) ggL_draw_X4_draw
theorem dL_draw_0 : decode cL_draw 0 = .ok (.aload_n 0, 1) := by decide +kernel
theorem dL_draw_1 : decode cL_draw 1 = .ok (.iload_n 1, 1) := by decide +kernel
theorem dL_draw_2 : decode cL_draw 2 = .ok (.iload_n 2, 1) := by decide +kernel
theorem dL_draw_3 : decode cL_draw 3 = .ok (.invokevirtual 9, 3) := by decide +kernel
theorem dL_draw_6 : decode cL_draw 6 = .ok (.ireturn, 1) := by decide +kernel
theorem dL_draw_7 : decode cL_draw 7 = .ok (.astore_n 3, 1) := by decide +kernel
theorem dL_draw_8 : decode cL_draw 8 = .ok (.ldc 17, 2) := by decide +kernel
theorem dL_draw_10 : decode cL_draw 10 = .ok (.ireturn, 1) := by decide +kernel
theorem dL_draw_11 : decode cL_draw 11 = .ok (.astore_n 3, 1) := by decide +kernel
theorem dL_draw_12 : decode cL_draw 12 = .ok (.ldc 20, 2) := by decide +kernel
theorem dL_draw_14 : decode cL_draw 14 = .ok (.ireturn, 1) := by decide +kernel
set_option maxRecDepth 20000 in
theorem ggL_section_X4_section : GoodIn wsL_section wsX4_section := goodIn_ca (goodIn_ca (goodIn_ca (goodIn_r _ [11, 12, 13, 14, 10, 15, 16, 17, 18, 19, 20, 21, 22, 23, 24, 25, 26, 27, 28, 29, 30, 31, 32, 33, 34, 35, 36, 37, 38, 39, 40, 41, 42, 43, 44, 45, 46, 47, 48, 49] (by decide +kernel) (by decide +kernel)) (goodIn_sub (fun _ h => List.mem_cons_of_mem _ (List.mem_append_left _ (List.mem_append_left _ (List.mem_append_right _ h)))) (by decide +kernel))) (goodIn_sub (fun _ h => List.mem_cons_of_mem _ (List.mem_append_left _ (List.mem_append_right _ h))) (by decide +kernel))) (goodIn_sub (fun _ h => List.mem_cons_of_mem _ (List.mem_append_right _ h)) (by decide +kernel))
set_option maxRecDepth 20000 in
theorem gL_section_X4_section : GoodIn wsL_section (wsV RL 21 RX4 yX4_section wsX4_section) := goodIn_app (goodIn_of _ (by decide +kernel)) ggL_section_X4_section
theorem dL_section_0 : decode cL_section 0 = .ok (.aload_n 0, 1) := by decide +kernel
theorem dL_section_1 : decode cL_section 1 = .ok (.iload_n 1, 1) := by decide +kernel
theorem dL_section_2 : decode cL_section 2 = .ok (.iload_n 2, 1) := by decide +kernel
theorem dL_section_3 : decode cL_section 3 = .ok (.iload_n 3, 1) := by decide +kernel
theorem dL_section_4 : decode cL_section 4 = .ok (.invokevirtual 21, 3) := by decide +kernel
theorem dL_section_7 : decode cL_section 7 = .ok (.ireturn, 1) := by decide +kernel
theorem dL_section_8 : decode cL_section 8 = .ok (.astore 4, 2) := by decide +kernel
theorem dL_section_10 : decode cL_section 10 = .ok (.ldc 17, 2) := by decide +kernel
theorem dL_section_12 : decode cL_section 12 = .ok (.ireturn, 1) := by decide +kernel
theorem dL_section_13 : decode cL_section 13 = .ok (.astore 4, 2) := by decide +kernel
theorem dL_section_15 : decode cL_section 15 = .ok (.ldc 20, 2) := by decide +kernel
theorem dL_section_17 : decode cL_section 17 = .ok (.ireturn, 1) := by decide +kernel
theorem dL_section_18 : decode cL_section 18 = .ok (.astore 4, 2) := by decide +kernel
theorem dL_section_20 : decode cL_section 20 = .ok (.ldc 29, 2) := by decide +kernel
theorem dL_section_22 : decode cL_section 22 = .ok (.ireturn, 1) := by decide +kernel
set_option maxRecDepth 20000 in
theorem ggL_bore_X4_bore : GoodIn wsL_bore wsX4_bore := goodIn_ca (goodIn_ca (goodIn_r _ [9, 10, 11, 12, 8, 13, 14, 15, 16, 17, 18, 19, 20, 21, 22, 23, 24, 25, 26, 27, 28, 29, 30, 31, 32, 33, 34, 35, 36, 37, 38] (by decide +kernel) (by decide +kernel)) (goodIn_sub (fun _ h => List.mem_cons_of_mem _ (List.mem_append_left _ (List.mem_append_right _ h))) (by decide +kernel))) (goodIn_sub (fun _ h => List.mem_cons_of_mem _ (List.mem_append_right _ h)) (by decide +kernel))
set_option maxRecDepth 20000 in
theorem gL_bore_X4_bore : GoodIn wsL_bore (wsV RL 30 RX4 yX4_bore wsX4_bore) := goodIn_app (goodIn_of _ (by decide +kernel)) ggL_bore_X4_bore
theorem dL_bore_0 : decode cL_bore 0 = .ok (.aload_n 0, 1) := by decide +kernel
theorem dL_bore_1 : decode cL_bore 1 = .ok (.iload_n 1, 1) := by decide +kernel
theorem dL_bore_2 : decode cL_bore 2 = .ok (.iload_n 2, 1) := by decide +kernel
theorem dL_bore_3 : decode cL_bore 3 = .ok (.invokevirtual 30, 3) := by decide +kernel
theorem dL_bore_6 : decode cL_bore 6 = .ok (.ireturn, 1) := by decide +kernel
theorem dL_bore_7 : decode cL_bore 7 = .ok (.astore_n 3, 1) := by decide +kernel
theorem dL_bore_8 : decode cL_bore 8 = .ok (.ldc 17, 2) := by decide +kernel
theorem dL_bore_10 : decode cL_bore 10 = .ok (.ireturn, 1) := by decide +kernel
theorem dL_bore_11 : decode cL_bore 11 = .ok (.astore_n 3, 1) := by decide +kernel
theorem dL_bore_12 : decode cL_bore 12 = .ok (.ldc 20, 2) := by decide +kernel
theorem dL_bore_14 : decode cL_bore 14 = .ok (.ireturn, 1) := by decide +kernel
set_option maxRecDepth 20000 in
theorem ggL_volume_X4_volume : GoodIn wsL_volume wsX4_volume := goodIn_ca (goodIn_ca (goodIn_r _ [9, 10, 11, 12, 8, 13, 14, 15, 16, 17, 18, 19, 20, 21, 22, 23, 24, 25, 26, 27, 28, 29, 30, 31, 32, 33, 34, 35, 36, 37, 38, 39, 40, 41, 42, 43, 44, 45, 46, 47, 48, 49, 50, 51] (by decide +kernel) (by decide +kernel)) (goodIn_sub (fun _ h => List.mem_cons_of_mem _ (List.mem_append_left _ (List.mem_append_right _ h))) (by decide +kernel))) (goodIn_sub (fun _ h => List.mem_cons_of_mem _ (List.mem_append_right _ h)) (by decide +kernel))
set_option maxRecDepth 20000 in
theorem gL_volume_X4_volume : GoodIn wsL_volume (wsV RL 33 RX4 yX4_volume wsX4_volume) := goodIn_app (goodIn_of _ (by decide +kernel)) ggL_volume_X4_volume
theorem dL_volume_0 : decode cL_volume 0 = .ok (.aload_n 0, 1) := by decide +kernel
theorem dL_volume_1 : decode cL_volume 1 = .ok (.iload_n 1, 1) := by decide +kernel
theorem dL_volume_2 : decode cL_volume 2 = .ok (.iload_n 2, 1) := by decide +kernel
theorem dL_volume_3 : decode cL_volume 3 = .ok (.invokevirtual 33, 3) := by decide +kernel
theorem dL_volume_6 : decode cL_volume 6 = .ok (.ireturn, 1) := by decide +kernel
theorem dL_volume_7 : decode cL_volume 7 = .ok (.astore_n 3, 1) := by decide +kernel
theorem dL_volume_8 : decode cL_volume 8 = .ok (.ldc 17, 2) := by decide +kernel
theorem dL_volume_10 : decode cL_volume 10 = .ok (.ireturn, 1) := by decide +kernel
theorem dL_volume_11 : decode cL_volume 11 = .ok (.astore_n 3, 1) := by decide +kernel
theorem dL_volume_12 : decode cL_volume 12 = .ok (.ldc 20, 2) := by decide +kernel
theorem dL_volume_14 : decode cL_volume 14 = .ok (.ireturn, 1) := by decide +kernel
set_option maxRecDepth 20000 in
theorem ggL_thread_X4_thread : GoodIn wsL_thread wsX4_thread := goodIn_ca (goodIn_ca (goodIn_ca (goodIn_r _ [11, 12, 13, 14, 15, 16, 17, 10, 18, 19, 20, 21, 22, 23, 24, 25, 26, 27, 28, 29, 30, 31, 32, 33, 34, 35, 36, 37, 38, 39, 40, 41, 42, 43, 44, 45, 46, 47, 48, 49, 50, 51, 52, 53, 54, 55, 56, 57, 58, 59, 60, 61] (by decide +kernel) (by decide +kernel)) (goodIn_sub (fun _ h => List.mem_cons_of_mem _ (List.mem_append_left _ (List.mem_append_left _ (List.mem_append_right _ h)))) (by decide +kernel))) (goodIn_sub (fun _ h => List.mem_cons_of_mem _ (List.mem_append_left _ (List.mem_append_right _ h))) (by decide +kernel))) (goodIn_sub (fun _ h => List.mem_cons_of_mem _ (List.mem_append_right _ h)) (by decide +kernel))
set_option maxRecDepth 20000 in
theorem gL_thread_X4_thread : GoodIn wsL_thread (wsV RL 36 RX4 yX4_thread wsX4_thread) := goodIn_app (goodIn_of _ (by decide +kernel)) ggL_thread_X4_thread
theorem dL_thread_0 : decode cL_thread 0 = .ok (.aload_n 0, 1) := by decide +kernel
theorem dL_thread_1 : decode cL_thread 1 = .ok (.iload_n 1, 1) := by decide +kernel
theorem dL_thread_2 : decode cL_thread 2 = .ok (.iload_n 2, 1) := by decide +kernel
theorem dL_thread_3 : decode cL_thread 3 = .ok (.iload_n 3, 1) := by decide +kernel
theorem dL_thread_4 : decode cL_thread 4 = .ok (.invokevirtual 36, 3) := by decide +kernel
theorem dL_thread_7 : decode cL_thread 7 = .ok (.ireturn, 1) := by decide +kernel
theorem dL_thread_8 : decode cL_thread 8 = .ok (.astore 4, 2) := by decide +kernel
theorem dL_thread_10 : decode cL_thread 10 = .ok (.ldc 17, 2) := by decide +kernel
theorem dL_thread_12 : decode cL_thread 12 = .ok (.ireturn, 1) := by decide +kernel
theorem dL_thread_13 : decode cL_thread 13 = .ok (.astore 4, 2) := by decide +kernel
theorem dL_thread_15 : decode cL_thread 15 = .ok (.ldc 20, 2) := by decide +kernel
theorem dL_thread_17 : decode cL_thread 17 = .ok (.ireturn, 1) := by decide +kernel
theorem dL_thread_18 : decode cL_thread 18 = .ok (.astore 4, 2) := by decide +kernel
theorem dL_thread_20 : decode cL_thread 20 = .ok (.ldc 29, 2) := by decide +kernel
theorem dL_thread_22 : decode cL_thread 22 = .ok (.ireturn, 1) := by decide +kernel
set_option maxRecDepth 20000 in
theorem ggL_widest_X4_widest : GoodIn wsL_widest wsX4_widest := goodIn_ca (goodIn_r _ [7, 8, 9, 10, 6, 11, 12, 13, 14, 15, 16, 17, 18, 19, 20, 21, 22, 23, 24, 25, 26, 27, 28, 29, 30, 31, 32, 33, 34, 35] (by decide +kernel) (by decide +kernel)) (goodIn_sub (fun _ h => List.mem_cons_of_mem _ (List.mem_append_right _ h)) (by decide +kernel))
set_option maxRecDepth 20000 in
theorem gL_widest_X4_widest : GoodIn wsL_widest (wsV RL 41 RX4 yX4_widest wsX4_widest) := goodIn_app (goodIn_of _ (by decide +kernel)) ggL_widest_X4_widest
theorem dL_widest_0 : decode cL_widest 0 = .ok (.aload_n 0, 1) := by decide +kernel
theorem dL_widest_1 : decode cL_widest 1 = .ok (.iload_n 1, 1) := by decide +kernel
theorem dL_widest_2 : decode cL_widest 2 = .ok (.invokevirtual 41, 3) := by decide +kernel
theorem dL_widest_5 : decode cL_widest 5 = .ok (.ireturn, 1) := by decide +kernel
theorem dL_widest_6 : decode cL_widest 6 = .ok (.astore_n 2, 1) := by decide +kernel
theorem dL_widest_7 : decode cL_widest 7 = .ok (.ldc 17, 2) := by decide +kernel
theorem dL_widest_9 : decode cL_widest 9 = .ok (.ireturn, 1) := by decide +kernel
set_option maxRecDepth 20000 in
theorem ggL_deliver_X4_deliver : GoodIn wsL_deliver wsX4_deliver := goodIn_ca (goodIn_ca (goodIn_r _ [9, 10, 11, 12, 13, 14, 8, 15, 16, 17, 18, 19, 20, 21, 22, 23, 24, 25, 26, 27, 28, 29, 30, 31, 32, 33, 34, 35, 36, 37, 38, 39, 40, 41, 42, 43, 44, 45, 46, 47, 48, 49, 50, 51, 52, 53, 54, 55, 56, 57, 58] (by decide +kernel) (by decide +kernel)) (goodIn_sub (fun _ h => List.mem_cons_of_mem _ (List.mem_append_left _ (List.mem_append_right _ h))) (by decide +kernel))) (goodIn_sub (fun _ h => List.mem_cons_of_mem _ (List.mem_append_right _ h)) (by decide +kernel))
set_option maxRecDepth 20000 in
theorem gL_deliver_X4_deliver : GoodIn wsL_deliver (wsV RL 45 RX4 yX4_deliver wsX4_deliver) := goodIn_app (goodIn_of _ (by decide +kernel)) ggL_deliver_X4_deliver
theorem dL_deliver_0 : decode cL_deliver 0 = .ok (.aload_n 0, 1) := by decide +kernel
theorem dL_deliver_1 : decode cL_deliver 1 = .ok (.iload_n 1, 1) := by decide +kernel
theorem dL_deliver_2 : decode cL_deliver 2 = .ok (.iload_n 2, 1) := by decide +kernel
theorem dL_deliver_3 : decode cL_deliver 3 = .ok (.iload_n 3, 1) := by decide +kernel
theorem dL_deliver_4 : decode cL_deliver 4 = .ok (.iload 4, 2) := by decide +kernel
theorem dL_deliver_6 : decode cL_deliver 6 = .ok (.invokevirtual 45, 3) := by decide +kernel
theorem dL_deliver_9 : decode cL_deliver 9 = .ok (.ireturn, 1) := by decide +kernel
theorem dL_deliver_10 : decode cL_deliver 10 = .ok (.astore 5, 2) := by decide +kernel
theorem dL_deliver_12 : decode cL_deliver 12 = .ok (.ldc 17, 2) := by decide +kernel
theorem dL_deliver_14 : decode cL_deliver 14 = .ok (.ireturn, 1) := by decide +kernel
theorem dL_deliver_15 : decode cL_deliver 15 = .ok (.astore 5, 2) := by decide +kernel
theorem dL_deliver_17 : decode cL_deliver 17 = .ok (.ldc 20, 2) := by decide +kernel
theorem dL_deliver_19 : decode cL_deliver 19 = .ok (.ireturn, 1) := by decide +kernel
set_option maxRecDepth 20000 in
theorem ggL_make_X4_make : GoodIn wsL_make wsX4_make := goodIn_ca (goodIn_ca (goodIn_ca (goodIn_ca (goodIn_r _ [13, 14, 15, 16, 17, 18, 19, 20, 21, 22, 23, 24, 12, 25, 26, 27, 28, 29, 30, 31, 32, 33, 34, 35, 36, 37, 38, 39, 40, 41, 42, 43, 44, 45, 46, 47, 48, 49, 50, 51, 52, 53, 54, 55, 56, 57, 58, 59, 60, 61, 62, 63, 64, 65, 66, 67, 68, 69, 70, 71, 72, 73, 74, 75, 76, 77, 78, 79, 80, 81, 82, 83, 84, 85, 86, 87, 88, 89, 90, 91, 92, 93, 94, 95, 96, 97, 98, 99, 100, 101, 102, 103, 104, 105, 106, 107, 108, 109, 110] (by decide +kernel) (by decide +kernel)) (goodIn_sub (fun _ h => List.mem_cons_of_mem _ (List.mem_append_left _ (List.mem_append_left _ (List.mem_append_left _ (List.mem_append_right _ h))))) (by decide +kernel))) (goodIn_sub (fun _ h => List.mem_cons_of_mem _ (List.mem_append_left _ (List.mem_append_left _ (List.mem_append_right _ h)))) (by decide +kernel))) (goodIn_sub (fun _ h => List.mem_cons_of_mem _ (List.mem_append_left _ (List.mem_append_right _ h))) (by decide +kernel))) (goodIn_sub (fun _ h => List.mem_cons_of_mem _ (List.mem_append_right _ h)) (by decide +kernel))
set_option maxRecDepth 20000 in
theorem gL_make_X4_make : GoodIn wsL_make (wsV RL 49 RX4 yX4_make wsX4_make) := goodIn_app (goodIn_of _ (by decide +kernel)) ggL_make_X4_make
theorem dL_make_0 : decode cL_make 0 = .ok (.aload_n 0, 1) := by decide +kernel
theorem dL_make_1 : decode cL_make 1 = .ok (.iload_n 1, 1) := by decide +kernel
theorem dL_make_2 : decode cL_make 2 = .ok (.iload_n 2, 1) := by decide +kernel
theorem dL_make_3 : decode cL_make 3 = .ok (.iload_n 3, 1) := by decide +kernel
theorem dL_make_4 : decode cL_make 4 = .ok (.invokevirtual 49, 3) := by decide +kernel
theorem dL_make_7 : decode cL_make 7 = .ok (.ireturn, 1) := by decide +kernel
theorem dL_make_8 : decode cL_make 8 = .ok (.astore 4, 2) := by decide +kernel
theorem dL_make_10 : decode cL_make 10 = .ok (.ldc 17, 2) := by decide +kernel
theorem dL_make_12 : decode cL_make 12 = .ok (.ireturn, 1) := by decide +kernel
theorem dL_make_13 : decode cL_make 13 = .ok (.astore 4, 2) := by decide +kernel
theorem dL_make_15 : decode cL_make 15 = .ok (.ldc 20, 2) := by decide +kernel
theorem dL_make_17 : decode cL_make 17 = .ok (.ireturn, 1) := by decide +kernel
theorem dL_make_18 : decode cL_make 18 = .ok (.astore 4, 2) := by decide +kernel
theorem dL_make_20 : decode cL_make 20 = .ok (.ldc 29, 2) := by decide +kernel
theorem dL_make_22 : decode cL_make 22 = .ok (.ireturn, 1) := by decide +kernel
theorem dL_make_23 : decode cL_make 23 = .ok (.astore 4, 2) := by decide +kernel
theorem dL_make_25 : decode cL_make 25 = .ok (.ldc 53, 2) := by decide +kernel
theorem dL_make_27 : decode cL_make 27 = .ok (.ireturn, 1) := by decide +kernel
set_option maxRecDepth 20000 in
theorem ggL_boiling_X4_boiling : GoodIn wsL_boiling wsX4_boiling := goodIn_ca (goodIn_r _ [7, 8, 9, 6, 10, 11, 12, 13, 14, 15, 16, 17, 18] (by decide +kernel) (by decide +kernel)) (goodIn_sub (fun _ h => List.mem_cons_of_mem _ (List.mem_append_right _ h)) (by decide +kernel))
set_option maxRecDepth 20000 in
theorem gL_boiling_X4_boiling : GoodIn wsL_boiling (wsV RL 54 RX4 yX4_boiling wsX4_boiling) := goodIn_app (goodIn_of _ (by decide +kernel)) ggL_boiling_X4_boiling
theorem dL_boiling_0 : decode cL_boiling 0 = .ok (.aload_n 0, 1) := by decide +kernel
theorem dL_boiling_1 : decode cL_boiling 1 = .ok (.iload_n 1, 1) := by decide +kernel
theorem dL_boiling_2 : decode cL_boiling 2 = .ok (.invokevirtual 54, 3) := by decide +kernel
theorem dL_boiling_5 : decode cL_boiling 5 = .ok (.ireturn, 1) := by decide +kernel
theorem dL_boiling_6 : decode cL_boiling 6 = .ok (.astore_n 2, 1) := by decide +kernel
theorem dL_boiling_7 : decode cL_boiling 7 = .ok (.ldc 17, 2) := by decide +kernel
theorem dL_boiling_9 : decode cL_boiling 9 = .ok (.ireturn, 1) := by decide +kernel
set_option maxRecDepth 20000 in
theorem ggL_barometer_X4_barometer : GoodIn wsL_barometer wsX4_barometer := goodIn_ca (goodIn_r _ [7, 8, 9, 10, 6, 11, 12, 13] (by decide +kernel) (by decide +kernel)) (goodIn_sub (fun _ h => List.mem_cons_of_mem _ (List.mem_append_right _ h)) (by decide +kernel))
set_option maxRecDepth 20000 in
theorem gL_barometer_X4_barometer : GoodIn wsL_barometer (wsV RL 57 RX4 yX4_barometer wsX4_barometer) := goodIn_app (goodIn_of _ (by decide +kernel)) ggL_barometer_X4_barometer
theorem dL_barometer_0 : decode cL_barometer 0 = .ok (.aload_n 0, 1) := by decide +kernel
theorem dL_barometer_1 : decode cL_barometer 1 = .ok (.iload_n 1, 1) := by decide +kernel
theorem dL_barometer_2 : decode cL_barometer 2 = .ok (.iload_n 2, 1) := by decide +kernel
theorem dL_barometer_3 : decode cL_barometer 3 = .ok (.iload_n 3, 1) := by decide +kernel
theorem dL_barometer_4 : decode cL_barometer 4 = .ok (.iload 4, 2) := by decide +kernel
theorem dL_barometer_6 : decode cL_barometer 6 = .ok (.invokevirtual 57, 3) := by decide +kernel
theorem dL_barometer_9 : decode cL_barometer 9 = .ok (.ireturn, 1) := by decide +kernel
theorem dL_barometer_10 : decode cL_barometer 10 = .ok (.astore 5, 2) := by decide +kernel
theorem dL_barometer_12 : decode cL_barometer 12 = .ok (.ldc 17, 2) := by decide +kernel
theorem dL_barometer_14 : decode cL_barometer 14 = .ok (.ireturn, 1) := by decide +kernel
set_option maxRecDepth 20000 in
theorem ggL_in_L_cell : GoodIn wsL_in wsL_cell := goodIn_r _ [5, 6, 7] (by decide +kernel) (by decide +kernel)
set_option maxRecDepth 20000 in
theorem gL_in_L_cell : GoodIn wsL_in (va_wsS RL 60 yL_cell wsL_cell) := goodIn_app (goodIn_of _ (by decide +kernel)) ggL_in_L_cell
theorem dL_in_0 : decode cL_in 0 = .ok (.aload_n 0, 1) := by decide +kernel
theorem dL_in_1 : decode cL_in 1 = .ok (.iload_n 1, 1) := by decide +kernel
theorem dL_in_2 : decode cL_in 2 = .ok (.invokestatic 60, 3) := by decide +kernel
theorem dL_in_5 : decode cL_in 5 = .ok (.ldc 66, 2) := by decide +kernel
theorem dL_in_7 : decode cL_in 7 = .ok (.iand, 1) := by decide +kernel
theorem dL_in_8 : decode cL_in 8 = .ok (.iload_n 2, 1) := by decide +kernel
theorem dL_in_9 : decode cL_in 9 = .ok (.irem, 1) := by decide +kernel
theorem dL_in_10 : decode cL_in 10 = .ok (.ireturn, 1) := by decide +kernel
