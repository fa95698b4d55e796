set_option maxRecDepth 20000 in
theorem ggL_draw_X4_draw : GoodIn wsL_draw wsX4_draw := goodIn_ca (goodIn_ca (goodIn_r _ [7, 8, 9, 10, 11, 12, 13, 14, 15, 16, 6, 17, 18, 19, 20, 21, 22, 23, 24, 25, 26, 27, 28, 29, 30, 31, 32, 33, 34, 35, 36, 37, 38, 39, 40, 41, 42, 43, 44, 45] (by decide +kernel) (by decide +kernel)) (goodIn_sub (fun _ h => List.mem_cons_of_mem _ (List.mem_append_left _ (List.mem_append_right _ h))) (by decide +kernel))) (goodIn_sub (fun _ h => List.mem_cons_of_mem _ (List.mem_append_right _ h)) (by decide +kernel))
set_option maxRecDepth 20000 in
theorem gL_draw_X4_draw : GoodIn wsL_draw (wsV RL 7 RX4 yX4_draw wsX4_draw) := goodIn_app (goodIn_of _ (by decide +kernel)) ggL_draw_X4_draw
theorem dL_draw_0 : decode cL_draw 0 = .ok (.aload_n 3, 1) := by decide +kernel
theorem dL_draw_1 : decode cL_draw 1 = .ok (.iconst 0, 1) := by decide +kernel
theorem dL_draw_2 : decode cL_draw 2 = .ok (.aload_n 0, 1) := by decide +kernel
theorem dL_draw_3 : decode cL_draw 3 = .ok (.iload_n 1, 1) := by decide +kernel
theorem dL_draw_4 : decode cL_draw 4 = .ok (.iload_n 2, 1) := by decide +kernel
theorem dL_draw_5 : decode cL_draw 5 = .ok (.invokevirtual 7, 3) := by decide +kernel
theorem dL_draw_8 : decode cL_draw 8 = .ok (.i2l, 1) := by decide +kernel
theorem dL_draw_9 : decode cL_draw 9 = .ok (.lastore, 1) := by decide +kernel
theorem dL_draw_10 : decode cL_draw 10 = .ok (.goto 11, 3) := by decide +kernel
theorem dL_draw_13 : decode cL_draw 13 = .ok (.astore 4, 2) := by decide +kernel
theorem dL_draw_15 : decode cL_draw 15 = .ok (.iconst 1, 1) := by decide +kernel
theorem dL_draw_16 : decode cL_draw 16 = .ok (.ireturn, 1) := by decide +kernel
theorem dL_draw_17 : decode cL_draw 17 = .ok (.astore 4, 2) := by decide +kernel
theorem dL_draw_19 : decode cL_draw 19 = .ok (.iconst 2, 1) := by decide +kernel
theorem dL_draw_20 : decode cL_draw 20 = .ok (.ireturn, 1) := by decide +kernel
theorem dL_draw_21 : decode cL_draw 21 = .ok (.iconst 0, 1) := by decide +kernel
theorem dL_draw_22 : decode cL_draw 22 = .ok (.ireturn, 1) := by decide +kernel
set_option maxRecDepth 20000 in
theorem ggL_section_X4_section : GoodIn wsL_section wsX4_section := goodIn_ca (goodIn_ca (goodIn_ca (goodIn_r _ [8, 9, 10, 11, 7, 12, 13, 14, 15, 16, 17, 18, 19, 20, 21, 22, 23, 24, 25, 26, 27, 28, 29, 30, 31, 32, 33, 34, 35, 36, 37, 38, 39, 40, 41, 42, 43, 44, 45, 46] (by decide +kernel) (by decide +kernel)) (goodIn_sub (fun _ h => List.mem_cons_of_mem _ (List.mem_append_left _ (List.mem_append_left _ (List.mem_append_right _ h)))) (by decide +kernel))) (goodIn_sub (fun _ h => List.mem_cons_of_mem _ (List.mem_append_left _ (List.mem_append_right _ h))) (by decide +kernel))) (goodIn_sub (fun _ h => List.mem_cons_of_mem _ (List.mem_append_right _ h)) (by decide +kernel))
set_option maxRecDepth 20000 in
theorem gL_section_X4_section : GoodIn wsL_section (wsV RL 17 RX4 yX4_section wsX4_section) := goodIn_app (goodIn_of _ (by decide +kernel)) ggL_section_X4_section
theorem dL_section_0 : decode cL_section 0 = .ok (.aload 4, 2) := by decide +kernel
theorem dL_section_2 : decode cL_section 2 = .ok (.iconst 0, 1) := by decide +kernel
theorem dL_section_3 : decode cL_section 3 = .ok (.aload_n 0, 1) := by decide +kernel
theorem dL_section_4 : decode cL_section 4 = .ok (.iload_n 1, 1) := by decide +kernel
theorem dL_section_5 : decode cL_section 5 = .ok (.iload_n 2, 1) := by decide +kernel
theorem dL_section_6 : decode cL_section 6 = .ok (.iload_n 3, 1) := by decide +kernel
theorem dL_section_7 : decode cL_section 7 = .ok (.invokevirtual 17, 3) := by decide +kernel
theorem dL_section_10 : decode cL_section 10 = .ok (.i2l, 1) := by decide +kernel
theorem dL_section_11 : decode cL_section 11 = .ok (.lastore, 1) := by decide +kernel
theorem dL_section_12 : decode cL_section 12 = .ok (.goto 15, 3) := by decide +kernel
theorem dL_section_15 : decode cL_section 15 = .ok (.astore 5, 2) := by decide +kernel
theorem dL_section_17 : decode cL_section 17 = .ok (.iconst 1, 1) := by decide +kernel
theorem dL_section_18 : decode cL_section 18 = .ok (.ireturn, 1) := by decide +kernel
theorem dL_section_19 : decode cL_section 19 = .ok (.astore 5, 2) := by decide +kernel
theorem dL_section_21 : decode cL_section 21 = .ok (.iconst 2, 1) := by decide +kernel
theorem dL_section_22 : decode cL_section 22 = .ok (.ireturn, 1) := by decide +kernel
theorem dL_section_23 : decode cL_section 23 = .ok (.astore 5, 2) := by decide +kernel
theorem dL_section_25 : decode cL_section 25 = .ok (.iconst 3, 1) := by decide +kernel
theorem dL_section_26 : decode cL_section 26 = .ok (.ireturn, 1) := by decide +kernel
theorem dL_section_27 : decode cL_section 27 = .ok (.iconst 0, 1) := by decide +kernel
theorem dL_section_28 : decode cL_section 28 = .ok (.ireturn, 1) := by decide +kernel
set_option maxRecDepth 20000 in
theorem ggL_bore_X4_bore : GoodIn wsL_bore wsX4_bore := goodIn_ca (goodIn_ca (goodIn_r _ [7, 8, 9, 10, 6, 11, 12, 13, 14, 15, 16, 17, 18, 19, 20, 21, 22, 23, 24, 25, 26, 27, 28, 29, 30, 31, 32, 33, 34, 35, 36] (by decide +kernel) (by decide +kernel)) (goodIn_sub (fun _ h => List.mem_cons_of_mem _ (List.mem_append_left _ (List.mem_append_right _ h))) (by decide +kernel))) (goodIn_sub (fun _ h => List.mem_cons_of_mem _ (List.mem_append_right _ h)) (by decide +kernel))
set_option maxRecDepth 20000 in
theorem gL_bore_X4_bore : GoodIn wsL_bore (wsV RL 25 RX4 yX4_bore wsX4_bore) := goodIn_app (goodIn_of _ (by decide +kernel)) ggL_bore_X4_bore
theorem dL_bore_0 : decode cL_bore 0 = .ok (.aload_n 3, 1) := by decide +kernel
theorem dL_bore_1 : decode cL_bore 1 = .ok (.iconst 0, 1) := by decide +kernel
theorem dL_bore_2 : decode cL_bore 2 = .ok (.aload_n 0, 1) := by decide +kernel
theorem dL_bore_3 : decode cL_bore 3 = .ok (.iload_n 1, 1) := by decide +kernel
theorem dL_bore_4 : decode cL_bore 4 = .ok (.iload_n 2, 1) := by decide +kernel
theorem dL_bore_5 : decode cL_bore 5 = .ok (.invokevirtual 25, 3) := by decide +kernel
theorem dL_bore_8 : decode cL_bore 8 = .ok (.i2l, 1) := by decide +kernel
theorem dL_bore_9 : decode cL_bore 9 = .ok (.lastore, 1) := by decide +kernel
theorem dL_bore_10 : decode cL_bore 10 = .ok (.goto 11, 3) := by decide +kernel
theorem dL_bore_13 : decode cL_bore 13 = .ok (.astore 4, 2) := by decide +kernel
theorem dL_bore_15 : decode cL_bore 15 = .ok (.iconst 1, 1) := by decide +kernel
theorem dL_bore_16 : decode cL_bore 16 = .ok (.ireturn, 1) := by decide +kernel
theorem dL_bore_17 : decode cL_bore 17 = .ok (.astore 4, 2) := by decide +kernel
theorem dL_bore_19 : decode cL_bore 19 = .ok (.iconst 2, 1) := by decide +kernel
theorem dL_bore_20 : decode cL_bore 20 = .ok (.ireturn, 1) := by decide +kernel
theorem dL_bore_21 : decode cL_bore 21 = .ok (.iconst 0, 1) := by decide +kernel
theorem dL_bore_22 : decode cL_bore 22 = .ok (.ireturn, 1) := by decide +kernel
set_option maxRecDepth 20000 in
theorem ggL_volume_X4_volume : GoodIn wsL_volume wsX4_volume := goodIn_ca (goodIn_ca (goodIn_r _ [7, 8, 9, 10, 6, 11, 12, 13, 14, 15, 16, 17, 18, 19, 20, 21, 22, 23, 24, 25, 26, 27, 28, 29, 30, 31, 32, 33, 34, 35, 36, 37, 38, 39, 40, 41, 42, 43, 44, 45, 46, 47, 48, 49] (by decide +kernel) (by decide +kernel)) (goodIn_sub (fun _ h => List.mem_cons_of_mem _ (List.mem_append_left _ (List.mem_append_right _ h))) (by decide +kernel))) (goodIn_sub (fun _ h => List.mem_cons_of_mem _ (List.mem_append_right _ h)) (by decide +kernel))
set_option maxRecDepth 20000 in
theorem gL_volume_X4_volume : GoodIn wsL_volume (wsV RL 28 RX4 yX4_volume wsX4_volume) := goodIn_app (goodIn_of _ (by decide +kernel)) ggL_volume_X4_volume
theorem dL_volume_0 : decode cL_volume 0 = .ok (.aload_n 3, 1) := by decide +kernel
theorem dL_volume_1 : decode cL_volume 1 = .ok (.iconst 0, 1) := by decide +kernel
theorem dL_volume_2 : decode cL_volume 2 = .ok (.aload_n 0, 1) := by decide +kernel
theorem dL_volume_3 : decode cL_volume 3 = .ok (.iload_n 1, 1) := by decide +kernel
theorem dL_volume_4 : decode cL_volume 4 = .ok (.iload_n 2, 1) := by decide +kernel
theorem dL_volume_5 : decode cL_volume 5 = .ok (.invokevirtual 28, 3) := by decide +kernel
theorem dL_volume_8 : decode cL_volume 8 = .ok (.i2l, 1) := by decide +kernel
theorem dL_volume_9 : decode cL_volume 9 = .ok (.lastore, 1) := by decide +kernel
theorem dL_volume_10 : decode cL_volume 10 = .ok (.goto 11, 3) := by decide +kernel
theorem dL_volume_13 : decode cL_volume 13 = .ok (.astore 4, 2) := by decide +kernel
theorem dL_volume_15 : decode cL_volume 15 = .ok (.iconst 1, 1) := by decide +kernel
theorem dL_volume_16 : decode cL_volume 16 = .ok (.ireturn, 1) := by decide +kernel
theorem dL_volume_17 : decode cL_volume 17 = .ok (.astore 4, 2) := by decide +kernel
theorem dL_volume_19 : decode cL_volume 19 = .ok (.iconst 2, 1) := by decide +kernel
theorem dL_volume_20 : decode cL_volume 20 = .ok (.ireturn, 1) := by decide +kernel
theorem dL_volume_21 : decode cL_volume 21 = .ok (.iconst 0, 1) := by decide +kernel
theorem dL_volume_22 : decode cL_volume 22 = .ok (.ireturn, 1) := by decide +kernel
set_option maxRecDepth 20000 in
theorem ggL_thread_X4_thread : GoodIn wsL_thread wsX4_thread := goodIn_ca (goodIn_ca (goodIn_ca (goodIn_r _ [8, 9, 10, 11, 12, 13, 14, 7, 15, 16, 17, 18, 19, 20, 21, 22, 23, 24, 25, 26, 27, 28, 29, 30, 31, 32, 33, 34, 35, 36, 37, 38, 39, 40, 41, 42, 43, 44, 45, 46, 47, 48, 49, 50, 51, 52, 53, 54, 55, 56, 57, 58] (by decide +kernel) (by decide +kernel)) (goodIn_sub (fun _ h => List.mem_cons_of_mem _ (List.mem_append_left _ (List.mem_append_left _ (List.mem_append_right _ h)))) (by decide +kernel))) (goodIn_sub (fun _ h => List.mem_cons_of_mem _ (List.mem_append_left _ (List.mem_append_right _ h))) (by decide +kernel))) (goodIn_sub (fun _ h => List.mem_cons_of_mem _ (List.mem_append_right _ h)) (by decide +kernel))
set_option maxRecDepth 20000 in
theorem gL_thread_X4_thread : GoodIn wsL_thread (wsV RL 31 RX4 yX4_thread wsX4_thread) := goodIn_app (goodIn_of _ (by decide +kernel)) ggL_thread_X4_thread
theorem dL_thread_0 : decode cL_thread 0 = .ok (.aload 4, 2) := by decide +kernel
theorem dL_thread_2 : decode cL_thread 2 = .ok (.iconst 0, 1) := by decide +kernel
theorem dL_thread_3 : decode cL_thread 3 = .ok (.aload_n 0, 1) := by decide +kernel
theorem dL_thread_4 : decode cL_thread 4 = .ok (.iload_n 1, 1) := by decide +kernel
theorem dL_thread_5 : decode cL_thread 5 = .ok (.iload_n 2, 1) := by decide +kernel
theorem dL_thread_6 : decode cL_thread 6 = .ok (.iload_n 3, 1) := by decide +kernel
theorem dL_thread_7 : decode cL_thread 7 = .ok (.invokevirtual 31, 3) := by decide +kernel
theorem dL_thread_10 : decode cL_thread 10 = .ok (.i2l, 1) := by decide +kernel
theorem dL_thread_11 : decode cL_thread 11 = .ok (.lastore, 1) := by decide +kernel
theorem dL_thread_12 : decode cL_thread 12 = .ok (.goto 15, 3) := by decide +kernel
theorem dL_thread_15 : decode cL_thread 15 = .ok (.astore 5, 2) := by decide +kernel
theorem dL_thread_17 : decode cL_thread 17 = .ok (.iconst 1, 1) := by decide +kernel
theorem dL_thread_18 : decode cL_thread 18 = .ok (.ireturn, 1) := by decide +kernel
theorem dL_thread_19 : decode cL_thread 19 = .ok (.astore 5, 2) := by decide +kernel
theorem dL_thread_21 : decode cL_thread 21 = .ok (.iconst 2, 1) := by decide +kernel
theorem dL_thread_22 : decode cL_thread 22 = .ok (.ireturn, 1) := by decide +kernel
theorem dL_thread_23 : decode cL_thread 23 = .ok (.astore 5, 2) := by decide +kernel
theorem dL_thread_25 : decode cL_thread 25 = .ok (.iconst 3, 1) := by decide +kernel
theorem dL_thread_26 : decode cL_thread 26 = .ok (.ireturn, 1) := by decide +kernel
theorem dL_thread_27 : decode cL_thread 27 = .ok (.iconst 0, 1) := by decide +kernel
theorem dL_thread_28 : decode cL_thread 28 = .ok (.ireturn, 1) := by decide +kernel
set_option maxRecDepth 20000 in
theorem ggL_widest_X4_widest : GoodIn wsL_widest wsX4_widest := goodIn_ca (goodIn_r _ [6, 7, 8, 9, 5, 10, 11, 12, 13, 14, 15, 16, 17, 18, 19, 20, 21, 22, 23, 24, 25, 26, 27, 28, 29, 30, 31, 32, 33, 34] (by decide +kernel) (by decide +kernel)) (goodIn_sub (fun _ h => List.mem_cons_of_mem _ (List.mem_append_right _ h)) (by decide +kernel))
set_option maxRecDepth 20000 in
theorem gL_widest_X4_widest : GoodIn wsL_widest (wsV RL 36 RX4 yX4_widest wsX4_widest) := goodIn_app (goodIn_of _ (by decide +kernel)) ggL_widest_X4_widest
theorem dL_widest_0 : decode cL_widest 0 = .ok (.aload_n 2, 1) := by decide +kernel
theorem dL_widest_1 : decode cL_widest 1 = .ok (.iconst 0, 1) := by decide +kernel
theorem dL_widest_2 : decode cL_widest 2 = .ok (.aload_n 0, 1) := by decide +kernel
theorem dL_widest_3 : decode cL_widest 3 = .ok (.iload_n 1, 1) := by decide +kernel
theorem dL_widest_4 : decode cL_widest 4 = .ok (.invokevirtual 36, 3) := by decide +kernel
theorem dL_widest_7 : decode cL_widest 7 = .ok (.i2l, 1) := by decide +kernel
theorem dL_widest_8 : decode cL_widest 8 = .ok (.lastore, 1) := by decide +kernel
theorem dL_widest_9 : decode cL_widest 9 = .ok (.goto 6, 3) := by decide +kernel
theorem dL_widest_12 : decode cL_widest 12 = .ok (.astore_n 3, 1) := by decide +kernel
theorem dL_widest_13 : decode cL_widest 13 = .ok (.iconst 1, 1) := by decide +kernel
theorem dL_widest_14 : decode cL_widest 14 = .ok (.ireturn, 1) := by decide +kernel
theorem dL_widest_15 : decode cL_widest 15 = .ok (.iconst 0, 1) := by decide +kernel
theorem dL_widest_16 : decode cL_widest 16 = .ok (.ireturn, 1) := by decide +kernel
set_option maxRecDepth 20000 in
theorem ggL_deliver_X4_deliver : GoodIn wsL_deliver wsX4_deliver := goodIn_ca (goodIn_ca (goodIn_r _ [7, 8, 9, 10, 11, 12, 6, 13, 14, 15, 16, 17, 18, 19, 20, 21, 22, 23, 24, 25, 26, 27, 28, 29, 30, 31, 32, 33, 34, 35, 36, 37, 38, 39, 40, 41, 42, 43, 44, 45, 46, 47, 48, 49, 50, 51, 52, 53, 54, 55, 56] (by decide +kernel) (by decide +kernel)) (goodIn_sub (fun _ h => List.mem_cons_of_mem _ (List.mem_append_left _ (List.mem_append_right _ h))) (by decide +kernel))) (goodIn_sub (fun _ h => List.mem_cons_of_mem _ (List.mem_append_right _ h)) (by decide +kernel))
set_option maxRecDepth 20000 in
theorem gL_deliver_X4_deliver : GoodIn wsL_deliver (wsV RL 40 RX4 yX4_deliver wsX4_deliver) := goodIn_app (goodIn_of _ (by decide +kernel)) ggL_deliver_X4_deliver
theorem dL_deliver_0 : decode cL_deliver 0 = .ok (.aload 5, 2) := by decide +kernel
theorem dL_deliver_2 : decode cL_deliver 2 = .ok (.iconst 0, 1) := by decide +kernel
theorem dL_deliver_3 : decode cL_deliver 3 = .ok (.aload_n 0, 1) := by decide +kernel
theorem dL_deliver_4 : decode cL_deliver 4 = .ok (.iload_n 1, 1) := by decide +kernel
theorem dL_deliver_5 : decode cL_deliver 5 = .ok (.iload_n 2, 1) := by decide +kernel
theorem dL_deliver_6 : decode cL_deliver 6 = .ok (.iload_n 3, 1) := by decide +kernel
theorem dL_deliver_7 : decode cL_deliver 7 = .ok (.iload 4, 2) := by decide +kernel
theorem dL_deliver_9 : decode cL_deliver 9 = .ok (.invokevirtual 40, 3) := by decide +kernel
theorem dL_deliver_12 : decode cL_deliver 12 = .ok (.i2l, 1) := by decide +kernel
theorem dL_deliver_13 : decode cL_deliver 13 = .ok (.lastore, 1) := by decide +kernel
theorem dL_deliver_14 : decode cL_deliver 14 = .ok (.goto 11, 3) := by decide +kernel
theorem dL_deliver_17 : decode cL_deliver 17 = .ok (.astore 6, 2) := by decide +kernel
theorem dL_deliver_19 : decode cL_deliver 19 = .ok (.iconst 1, 1) := by decide +kernel
theorem dL_deliver_20 : decode cL_deliver 20 = .ok (.ireturn, 1) := by decide +kernel
theorem dL_deliver_21 : decode cL_deliver 21 = .ok (.astore 6, 2) := by decide +kernel
theorem dL_deliver_23 : decode cL_deliver 23 = .ok (.iconst 2, 1) := by decide +kernel
theorem dL_deliver_24 : decode cL_deliver 24 = .ok (.ireturn, 1) := by decide +kernel
theorem dL_deliver_25 : decode cL_deliver 25 = .ok (.iconst 0, 1) := by decide +kernel
theorem dL_deliver_26 : decode cL_deliver 26 = .ok (.ireturn, 1) := by decide +kernel
set_option maxRecDepth 20000 in
theorem ggL_make_X4_make : GoodIn wsL_make wsX4_make := goodIn_ca (goodIn_ca (goodIn_ca (goodIn_ca (goodIn_r _ [9, 10, 11, 12, 13, 14, 15, 16, 17, 18, 19, 20, 8, 21, 22, 23, 24, 25, 26, 27, 28, 29, 30, 31, 32, 33, 34, 35, 36, 37, 38, 39, 40, 41, 42, 43, 44, 45, 46, 47, 48, 49, 50, 51, 52, 53, 54, 55, 56, 57, 58, 59, 60, 61, 62, 63, 64, 65, 66, 67, 68, 69, 70, 71, 72, 73, 74, 75, 76, 77, 78, 79, 80, 81, 82, 83, 84, 85, 86, 87, 88, 89, 90, 91, 92, 93, 94, 95, 96, 97, 98, 99, 100, 101, 102, 103, 104, 105, 106] (by decide +kernel) (by decide +kernel)) (goodIn_sub (fun _ h => List.mem_cons_of_mem _ (List.mem_append_left _ (List.mem_append_left _ (List.mem_append_left _ (List.mem_append_right _ h))))) (by decide +kernel))) (goodIn_sub (fun _ h => List.mem_cons_of_mem _ (List.mem_append_left _ (List.mem_append_left _ (List.mem_append_right _ h)))) (by decide +kernel))) (goodIn_sub (fun _ h => List.mem_cons_of_mem _ (List.mem_append_left _ (List.mem_append_right _ h))) (by decide +kernel))) (goodIn_sub (fun _ h => List.mem_cons_of_mem _ (List.mem_append_right _ h)) (by decide +kernel))
set_option maxRecDepth 20000 in
theorem gL_make_X4_make : GoodIn wsL_make (wsV RL 44 RX4 yX4_make wsX4_make) := goodIn_app (goodIn_of _ (by decide +kernel)) ggL_make_X4_make
theorem dL_make_0 : decode cL_make 0 = .ok (.aload 4, 2) := by decide +kernel
theorem dL_make_2 : decode cL_make 2 = .ok (.iconst 0, 1) := by decide +kernel
theorem dL_make_3 : decode cL_make 3 = .ok (.aload_n 0, 1) := by decide +kernel
theorem dL_make_4 : decode cL_make 4 = .ok (.iload_n 1, 1) := by decide +kernel
theorem dL_make_5 : decode cL_make 5 = .ok (.iload_n 2, 1) := by decide +kernel
theorem dL_make_6 : decode cL_make 6 = .ok (.iload_n 3, 1) := by decide +kernel
theorem dL_make_7 : decode cL_make 7 = .ok (.invokevirtual 44, 3) := by decide +kernel
theorem dL_make_10 : decode cL_make 10 = .ok (.i2l, 1) := by decide +kernel
theorem dL_make_11 : decode cL_make 11 = .ok (.lastore, 1) := by decide +kernel
theorem dL_make_12 : decode cL_make 12 = .ok (.goto 19, 3) := by decide +kernel
theorem dL_make_15 : decode cL_make 15 = .ok (.astore 5, 2) := by decide +kernel
theorem dL_make_17 : decode cL_make 17 = .ok (.iconst 1, 1) := by decide +kernel
theorem dL_make_18 : decode cL_make 18 = .ok (.ireturn, 1) := by decide +kernel
theorem dL_make_19 : decode cL_make 19 = .ok (.astore 5, 2) := by decide +kernel
theorem dL_make_21 : decode cL_make 21 = .ok (.iconst 2, 1) := by decide +kernel
theorem dL_make_22 : decode cL_make 22 = .ok (.ireturn, 1) := by decide +kernel
theorem dL_make_23 : decode cL_make 23 = .ok (.astore 5, 2) := by decide +kernel
theorem dL_make_25 : decode cL_make 25 = .ok (.iconst 3, 1) := by decide +kernel
theorem dL_make_26 : decode cL_make 26 = .ok (.ireturn, 1) := by decide +kernel
theorem dL_make_27 : decode cL_make 27 = .ok (.astore 5, 2) := by decide +kernel
theorem dL_make_29 : decode cL_make 29 = .ok (.iconst 4, 1) := by decide +kernel
theorem dL_make_30 : decode cL_make 30 = .ok (.ireturn, 1) := by decide +kernel
theorem dL_make_31 : decode cL_make 31 = .ok (.iconst 0, 1) := by decide +kernel
theorem dL_make_32 : decode cL_make 32 = .ok (.ireturn, 1) := by decide +kernel
set_option maxRecDepth 20000 in
theorem ggL_buy_X4_buy : GoodIn wsL_buy wsX4_buy := goodIn_ca (goodIn_r _ [6, 7, 8, 9, 10, 11, 5, 12, 13, 14, 15, 16, 17, 18, 19, 20, 21, 22, 23] (by decide +kernel) (by decide +kernel)) (goodIn_sub (fun _ h => List.mem_cons_of_mem _ (List.mem_append_right _ h)) (by decide +kernel))
set_option maxRecDepth 20000 in
theorem gL_buy_X4_buy : GoodIn wsL_buy (wsV RL 48 RX4 yX4_buy wsX4_buy) := goodIn_app (goodIn_of _ (by decide +kernel)) ggL_buy_X4_buy
theorem dL_buy_0 : decode cL_buy 0 = .ok (.aload_n 2, 1) := by decide +kernel
theorem dL_buy_1 : decode cL_buy 1 = .ok (.iconst 0, 1) := by decide +kernel
theorem dL_buy_2 : decode cL_buy 2 = .ok (.aload_n 0, 1) := by decide +kernel
theorem dL_buy_3 : decode cL_buy 3 = .ok (.iload_n 1, 1) := by decide +kernel
theorem dL_buy_4 : decode cL_buy 4 = .ok (.invokevirtual 48, 3) := by decide +kernel
theorem dL_buy_7 : decode cL_buy 7 = .ok (.i2l, 1) := by decide +kernel
theorem dL_buy_8 : decode cL_buy 8 = .ok (.lastore, 1) := by decide +kernel
theorem dL_buy_9 : decode cL_buy 9 = .ok (.goto 6, 3) := by decide +kernel
theorem dL_buy_12 : decode cL_buy 12 = .ok (.astore_n 3, 1) := by decide +kernel
theorem dL_buy_13 : decode cL_buy 13 = .ok (.iconst 1, 1) := by decide +kernel
theorem dL_buy_14 : decode cL_buy 14 = .ok (.ireturn, 1) := by decide +kernel
theorem dL_buy_15 : decode cL_buy 15 = .ok (.iconst 0, 1) := by decide +kernel
theorem dL_buy_16 : decode cL_buy 16 = .ok (.ireturn, 1) := by decide +kernel
set_option maxRecDepth 20000 in
theorem ggL_fill_X4_fill : GoodIn wsL_fill wsX4_fill := goodIn_ca (goodIn_ca (goodIn_ca (goodIn_r _ [8, 9, 10, 11, 12, 13, 7, 14, 15, 16, 17, 18, 19, 20, 21, 22, 23, 24, 25, 26, 27, 28, 29, 30, 31, 32, 33, 34, 35, 36, 37, 38, 39, 40, 41, 42, 43, 44, 45, 46, 47, 48, 49, 50, 51, 52, 53, 54, 55, 56, 57, 58, 59, 60, 61, 62, 63, 64, 65, 66, 67, 68, 69, 70, 71, 72, 73, 74, 75, 76, 77, 78, 79, 80, 81, 82, 83, 84, 85, 86, 87, 88, 89, 90] (by decide +kernel) (by decide +kernel)) (goodIn_sub (fun _ h => List.mem_cons_of_mem _ (List.mem_append_left _ (List.mem_append_left _ (List.mem_append_right _ h)))) (by decide +kernel))) (goodIn_sub (fun _ h => List.mem_cons_of_mem _ (List.mem_append_left _ (List.mem_append_right _ h))) (by decide +kernel))) (goodIn_sub (fun _ h => List.mem_cons_of_mem _ (List.mem_append_right _ h)) (by decide +kernel))
set_option maxRecDepth 20000 in
theorem gL_fill_X4_fill : GoodIn wsL_fill (wsV RL 51 RX4 yX4_fill wsX4_fill) := goodIn_app (goodIn_of _ (by decide +kernel)) ggL_fill_X4_fill
theorem dL_fill_0 : decode cL_fill 0 = .ok (.aload 4, 2) := by decide +kernel
theorem dL_fill_2 : decode cL_fill 2 = .ok (.iconst 0, 1) := by decide +kernel
theorem dL_fill_3 : decode cL_fill 3 = .ok (.aload_n 0, 1) := by decide +kernel
theorem dL_fill_4 : decode cL_fill 4 = .ok (.iload_n 1, 1) := by decide +kernel
theorem dL_fill_5 : decode cL_fill 5 = .ok (.iload_n 2, 1) := by decide +kernel
theorem dL_fill_6 : decode cL_fill 6 = .ok (.iload_n 3, 1) := by decide +kernel
theorem dL_fill_7 : decode cL_fill 7 = .ok (.invokevirtual 51, 3) := by decide +kernel
theorem dL_fill_10 : decode cL_fill 10 = .ok (.i2l, 1) := by decide +kernel
theorem dL_fill_11 : decode cL_fill 11 = .ok (.lastore, 1) := by decide +kernel
theorem dL_fill_12 : decode cL_fill 12 = .ok (.goto 15, 3) := by decide +kernel
theorem dL_fill_15 : decode cL_fill 15 = .ok (.astore 5, 2) := by decide +kernel
theorem dL_fill_17 : decode cL_fill 17 = .ok (.iconst 1, 1) := by decide +kernel
theorem dL_fill_18 : decode cL_fill 18 = .ok (.ireturn, 1) := by decide +kernel
theorem dL_fill_19 : decode cL_fill 19 = .ok (.astore 5, 2) := by decide +kernel
theorem dL_fill_21 : decode cL_fill 21 = .ok (.iconst 2, 1) := by decide +kernel
theorem dL_fill_22 : decode cL_fill 22 = .ok (.ireturn, 1) := by decide +kernel
theorem dL_fill_23 : decode cL_fill 23 = .ok (.astore 5, 2) := by decide +kernel
theorem dL_fill_25 : decode cL_fill 25 = .ok (.iconst 3, 1) := by decide +kernel
theorem dL_fill_26 : decode cL_fill 26 = .ok (.ireturn, 1) := by decide +kernel
theorem dL_fill_27 : decode cL_fill 27 = .ok (.iconst 0, 1) := by decide +kernel
theorem dL_fill_28 : decode cL_fill 28 = .ok (.ireturn, 1) := by decide +kernel
set_option maxRecDepth 20000 in
theorem ggL_smash_X4_smash : GoodIn wsL_smash wsX4_smash := goodIn_ca (goodIn_ca (goodIn_r _ [7, 8, 9, 10, 11, 12, 13, 6, 14, 15, 16, 17, 18, 19, 20, 21, 22, 23, 24, 25, 26, 27, 28, 29, 30, 31, 32, 33, 34, 35, 36, 37, 38, 39, 40, 41, 42, 43, 44, 45, 46, 47, 48, 49, 50, 51, 52, 53, 54] (by decide +kernel) (by decide +kernel)) (goodIn_sub (fun _ h => List.mem_cons_of_mem _ (List.mem_append_left _ (List.mem_append_right _ h))) (by decide +kernel))) (goodIn_sub (fun _ h => List.mem_cons_of_mem _ (List.mem_append_right _ h)) (by decide +kernel))
set_option maxRecDepth 20000 in
theorem gL_smash_X4_smash : GoodIn wsL_smash (wsV RL 55 RX4 yX4_smash wsX4_smash) := goodIn_app (goodIn_of _ (by decide +kernel)) ggL_smash_X4_smash
theorem dL_smash_0 : decode cL_smash 0 = .ok (.aload_n 2, 1) := by decide +kernel
theorem dL_smash_1 : decode cL_smash 1 = .ok (.iconst 0, 1) := by decide +kernel
theorem dL_smash_2 : decode cL_smash 2 = .ok (.aload_n 0, 1) := by decide +kernel
theorem dL_smash_3 : decode cL_smash 3 = .ok (.iload_n 1, 1) := by decide +kernel
theorem dL_smash_4 : decode cL_smash 4 = .ok (.invokevirtual 55, 3) := by decide +kernel
theorem dL_smash_7 : decode cL_smash 7 = .ok (.i2l, 1) := by decide +kernel
theorem dL_smash_8 : decode cL_smash 8 = .ok (.lastore, 1) := by decide +kernel
theorem dL_smash_9 : decode cL_smash 9 = .ok (.goto 9, 3) := by decide +kernel
theorem dL_smash_12 : decode cL_smash 12 = .ok (.astore_n 3, 1) := by decide +kernel
theorem dL_smash_13 : decode cL_smash 13 = .ok (.iconst 1, 1) := by decide +kernel
theorem dL_smash_14 : decode cL_smash 14 = .ok (.ireturn, 1) := by decide +kernel
theorem dL_smash_15 : decode cL_smash 15 = .ok (.astore_n 3, 1) := by decide +kernel
theorem dL_smash_16 : decode cL_smash 16 = .ok (.iconst 2, 1) := by decide +kernel
theorem dL_smash_17 : decode cL_smash 17 = .ok (.ireturn, 1) := by decide +kernel
theorem dL_smash_18 : decode cL_smash 18 = .ok (.iconst 0, 1) := by decide +kernel
theorem dL_smash_19 : decode cL_smash 19 = .ok (.ireturn, 1) := by decide +kernel
set_option maxRecDepth 20000 in
theorem ggL_inside_X4_inside : GoodIn wsL_inside wsX4_inside := goodIn_ca (goodIn_r _ [6, 7, 8, 9, 5, 10, 11, 12, 13, 14, 15, 16, 17, 18, 19, 20, 21, 22, 23, 24, 25, 26, 27, 28, 29, 30, 31, 32, 33, 34, 35, 36, 37] (by decide +kernel) (by decide +kernel)) (goodIn_sub (fun _ h => List.mem_cons_of_mem _ (List.mem_append_right _ h)) (by decide +kernel))
set_option maxRecDepth 20000 in
theorem gL_inside_X4_inside : GoodIn wsL_inside (wsV RL 58 RX4 yX4_inside wsX4_inside) := goodIn_app (goodIn_of _ (by decide +kernel)) ggL_inside_X4_inside
theorem dL_inside_0 : decode cL_inside 0 = .ok (.aload_n 2, 1) := by decide +kernel
theorem dL_inside_1 : decode cL_inside 1 = .ok (.iconst 0, 1) := by decide +kernel
theorem dL_inside_2 : decode cL_inside 2 = .ok (.aload_n 0, 1) := by decide +kernel
theorem dL_inside_3 : decode cL_inside 3 = .ok (.iload_n 1, 1) := by decide +kernel
theorem dL_inside_4 : decode cL_inside 4 = .ok (.invokevirtual 58, 3) := by decide +kernel
theorem dL_inside_7 : decode cL_inside 7 = .ok (.i2l, 1) := by decide +kernel
theorem dL_inside_8 : decode cL_inside 8 = .ok (.lastore, 1) := by decide +kernel
theorem dL_inside_9 : decode cL_inside 9 = .ok (.goto 6, 3) := by decide +kernel
theorem dL_inside_12 : decode cL_inside 12 = .ok (.astore_n 3, 1) := by decide +kernel
theorem dL_inside_13 : decode cL_inside 13 = .ok (.iconst 1, 1) := by decide +kernel
theorem dL_inside_14 : decode cL_inside 14 = .ok (.ireturn, 1) := by decide +kernel
theorem dL_inside_15 : decode cL_inside 15 = .ok (.iconst 0, 1) := by decide +kernel
theorem dL_inside_16 : decode cL_inside 16 = .ok (.ireturn, 1) := by decide +kernel
set_option maxRecDepth 20000 in
theorem ggL_crept_X4_crept : GoodIn wsL_crept wsX4_crept := goodIn_ca (goodIn_r _ [6, 7, 8, 9, 5, 10, 11, 12, 13, 14, 15, 16, 17, 18, 19, 20, 21, 22, 23, 24, 25, 26, 27, 28, 29, 30, 31, 32, 33, 34, 35, 36, 37] (by decide +kernel) (by decide +kernel)) (goodIn_sub (fun _ h => List.mem_cons_of_mem _ (List.mem_append_right _ h)) (by decide +kernel))
set_option maxRecDepth 20000 in
theorem gL_crept_X4_crept : GoodIn wsL_crept (wsV RL 61 RX4 yX4_crept wsX4_crept) := goodIn_app (goodIn_of _ (by decide +kernel)) ggL_crept_X4_crept
theorem dL_crept_0 : decode cL_crept 0 = .ok (.aload_n 2, 1) := by decide +kernel
theorem dL_crept_1 : decode cL_crept 1 = .ok (.iconst 0, 1) := by decide +kernel
theorem dL_crept_2 : decode cL_crept 2 = .ok (.aload_n 0, 1) := by decide +kernel
theorem dL_crept_3 : decode cL_crept 3 = .ok (.iload_n 1, 1) := by decide +kernel
theorem dL_crept_4 : decode cL_crept 4 = .ok (.invokevirtual 61, 3) := by decide +kernel
theorem dL_crept_7 : decode cL_crept 7 = .ok (.i2l, 1) := by decide +kernel
theorem dL_crept_8 : decode cL_crept 8 = .ok (.lastore, 1) := by decide +kernel
theorem dL_crept_9 : decode cL_crept 9 = .ok (.goto 6, 3) := by decide +kernel
theorem dL_crept_12 : decode cL_crept 12 = .ok (.astore_n 3, 1) := by decide +kernel
theorem dL_crept_13 : decode cL_crept 13 = .ok (.iconst 1, 1) := by decide +kernel
theorem dL_crept_14 : decode cL_crept 14 = .ok (.ireturn, 1) := by decide +kernel
theorem dL_crept_15 : decode cL_crept 15 = .ok (.iconst 0, 1) := by decide +kernel
theorem dL_crept_16 : decode cL_crept 16 = .ok (.ireturn, 1) := by decide +kernel
set_option maxRecDepth 20000 in
theorem ggL_days_X4_days : GoodIn wsL_days wsX4_days := goodIn_ca (goodIn_ca (goodIn_r _ [7, 8, 9, 10, 11, 12, 13, 6, 14, 15, 16, 17, 18, 19, 20, 21, 22, 23, 24, 25, 26, 27, 28, 29, 30, 31, 32, 33, 34, 35, 36, 37, 38, 39, 40, 41, 42, 43, 44, 45, 46, 47, 48, 49, 50, 51, 52] (by decide +kernel) (by decide +kernel)) (goodIn_sub (fun _ h => List.mem_cons_of_mem _ (List.mem_append_left _ (List.mem_append_right _ h))) (by decide +kernel))) (goodIn_sub (fun _ h => List.mem_cons_of_mem _ (List.mem_append_right _ h)) (by decide +kernel))
set_option maxRecDepth 20000 in
theorem gL_days_X4_days : GoodIn wsL_days (wsV RL 64 RX4 yX4_days wsX4_days) := goodIn_app (goodIn_of _ (by decide +kernel)) ggL_days_X4_days
theorem dL_days_0 : decode cL_days 0 = .ok (.aload_n 2, 1) := by decide +kernel
theorem dL_days_1 : decode cL_days 1 = .ok (.iconst 0, 1) := by decide +kernel
theorem dL_days_2 : decode cL_days 2 = .ok (.aload_n 0, 1) := by decide +kernel
theorem dL_days_3 : decode cL_days 3 = .ok (.iload_n 1, 1) := by decide +kernel
theorem dL_days_4 : decode cL_days 4 = .ok (.invokevirtual 64, 3) := by decide +kernel
theorem dL_days_7 : decode cL_days 7 = .ok (.i2l, 1) := by decide +kernel
theorem dL_days_8 : decode cL_days 8 = .ok (.lastore, 1) := by decide +kernel
theorem dL_days_9 : decode cL_days 9 = .ok (.goto 9, 3) := by decide +kernel
theorem dL_days_12 : decode cL_days 12 = .ok (.astore_n 3, 1) := by decide +kernel
theorem dL_days_13 : decode cL_days 13 = .ok (.iconst 1, 1) := by decide +kernel
theorem dL_days_14 : decode cL_days 14 = .ok (.ireturn, 1) := by decide +kernel
theorem dL_days_15 : decode cL_days 15 = .ok (.astore_n 3, 1) := by decide +kernel
theorem dL_days_16 : decode cL_days 16 = .ok (.iconst 2, 1) := by decide +kernel
theorem dL_days_17 : decode cL_days 17 = .ok (.ireturn, 1) := by decide +kernel
theorem dL_days_18 : decode cL_days 18 = .ok (.iconst 0, 1) := by decide +kernel
theorem dL_days_19 : decode cL_days 19 = .ok (.ireturn, 1) := by decide +kernel
set_option maxRecDepth 20000 in
theorem ggL_air_X4_air : GoodIn wsL_air wsX4_air := goodIn_ca (goodIn_r _ [6, 7, 8, 9, 5, 10, 11, 12, 13, 14, 15, 16, 17, 18, 19, 20, 21, 22, 23, 24] (by decide +kernel) (by decide +kernel)) (goodIn_sub (fun _ h => List.mem_cons_of_mem _ (List.mem_append_right _ h)) (by decide +kernel))
set_option maxRecDepth 20000 in
theorem gL_air_X4_air : GoodIn wsL_air (wsV RL 67 RX4 yX4_air wsX4_air) := goodIn_app (goodIn_of _ (by decide +kernel)) ggL_air_X4_air
theorem dL_air_0 : decode cL_air 0 = .ok (.aload_n 2, 1) := by decide +kernel
theorem dL_air_1 : decode cL_air 1 = .ok (.iconst 0, 1) := by decide +kernel
theorem dL_air_2 : decode cL_air 2 = .ok (.aload_n 0, 1) := by decide +kernel
theorem dL_air_3 : decode cL_air 3 = .ok (.iload_n 1, 1) := by decide +kernel
theorem dL_air_4 : decode cL_air 4 = .ok (.invokevirtual 67, 3) := by decide +kernel
theorem dL_air_7 : decode cL_air 7 = .ok (.i2l, 1) := by decide +kernel
theorem dL_air_8 : decode cL_air 8 = .ok (.lastore, 1) := by decide +kernel
theorem dL_air_9 : decode cL_air 9 = .ok (.goto 6, 3) := by decide +kernel
theorem dL_air_12 : decode cL_air 12 = .ok (.astore_n 3, 1) := by decide +kernel
theorem dL_air_13 : decode cL_air 13 = .ok (.iconst 1, 1) := by decide +kernel
theorem dL_air_14 : decode cL_air 14 = .ok (.ireturn, 1) := by decide +kernel
theorem dL_air_15 : decode cL_air 15 = .ok (.iconst 0, 1) := by decide +kernel
theorem dL_air_16 : decode cL_air 16 = .ok (.ireturn, 1) := by decide +kernel
set_option maxRecDepth 20000 in
theorem ggL_level_X4_level : GoodIn wsL_level wsX4_level := goodIn_ca (goodIn_ca (goodIn_ca (goodIn_ca (goodIn_r _ [9, 10, 11, 12, 8, 13, 14, 15, 16, 17, 18, 19, 20, 21, 22, 23, 24, 25, 26, 27, 28, 29, 30, 31, 32, 33, 34, 35, 36, 37, 38, 39, 40, 41, 42, 43, 44, 45, 46, 47, 48, 49, 50, 51, 52, 53, 54, 55, 56, 57, 58, 59, 60, 61, 62, 63, 64, 65, 66, 67, 68, 69, 70, 71, 72, 73, 74, 75, 76, 77, 78, 79, 80, 81, 82, 83, 84, 85, 86, 87, 88, 89, 90, 91, 92, 93, 94, 95, 96, 97, 98, 99, 100, 101, 102, 103, 104, 105, 106, 107, 108, 109, 110, 111, 112, 113] (by decide +kernel) (by decide +kernel)) (goodIn_sub (fun _ h => List.mem_cons_of_mem _ (List.mem_append_left _ (List.mem_append_left _ (List.mem_append_left _ (List.mem_append_right _ h))))) (by decide +kernel))) (goodIn_sub (fun _ h => List.mem_cons_of_mem _ (List.mem_append_left _ (List.mem_append_left _ (List.mem_append_right _ h)))) (by decide +kernel))) (goodIn_sub (fun _ h => List.mem_cons_of_mem _ (List.mem_append_left _ (List.mem_append_right _ h))) (by decide +kernel))) (goodIn_sub (fun _ h => List.mem_cons_of_mem _ (List.mem_append_right _ h)) (by decide +kernel))
set_option maxRecDepth 20000 in
theorem gL_level_X4_level : GoodIn wsL_level (wsV RL 70 RX4 yX4_level wsX4_level) := goodIn_app (goodIn_of _ (by decide +kernel)) ggL_level_X4_level
theorem dL_level_0 : decode cL_level 0 = .ok (.aload 4, 2) := by decide +kernel
theorem dL_level_2 : decode cL_level 2 = .ok (.iconst 0, 1) := by decide +kernel
theorem dL_level_3 : decode cL_level 3 = .ok (.aload_n 0, 1) := by decide +kernel
theorem dL_level_4 : decode cL_level 4 = .ok (.iload_n 1, 1) := by decide +kernel
theorem dL_level_5 : decode cL_level 5 = .ok (.iload_n 2, 1) := by decide +kernel
theorem dL_level_6 : decode cL_level 6 = .ok (.iload_n 3, 1) := by decide +kernel
theorem dL_level_7 : decode cL_level 7 = .ok (.invokevirtual 70, 3) := by decide +kernel
theorem dL_level_10 : decode cL_level 10 = .ok (.i2l, 1) := by decide +kernel
theorem dL_level_11 : decode cL_level 11 = .ok (.lastore, 1) := by decide +kernel
theorem dL_level_12 : decode cL_level 12 = .ok (.goto 19, 3) := by decide +kernel
theorem dL_level_15 : decode cL_level 15 = .ok (.astore 5, 2) := by decide +kernel
theorem dL_level_17 : decode cL_level 17 = .ok (.iconst 1, 1) := by decide +kernel
theorem dL_level_18 : decode cL_level 18 = .ok (.ireturn, 1) := by decide +kernel
theorem dL_level_19 : decode cL_level 19 = .ok (.astore 5, 2) := by decide +kernel
theorem dL_level_21 : decode cL_level 21 = .ok (.iconst 2, 1) := by decide +kernel
theorem dL_level_22 : decode cL_level 22 = .ok (.ireturn, 1) := by decide +kernel
theorem dL_level_23 : decode cL_level 23 = .ok (.astore 5, 2) := by decide +kernel
theorem dL_level_25 : decode cL_level 25 = .ok (.iconst 3, 1) := by decide +kernel
theorem dL_level_26 : decode cL_level 26 = .ok (.ireturn, 1) := by decide +kernel
theorem dL_level_27 : decode cL_level 27 = .ok (.astore 5, 2) := by decide +kernel
theorem dL_level_29 : decode cL_level 29 = .ok (.iconst 4, 1) := by decide +kernel
theorem dL_level_30 : decode cL_level 30 = .ok (.ireturn, 1) := by decide +kernel
theorem dL_level_31 : decode cL_level 31 = .ok (.iconst 0, 1) := by decide +kernel
theorem dL_level_32 : decode cL_level 32 = .ok (.ireturn, 1) := by decide +kernel
set_option maxRecDepth 20000 in
theorem ggL_ice_X4_ice : GoodIn wsL_ice wsX4_ice := goodIn_ca (goodIn_ca (goodIn_ca (goodIn_r _ [8, 9, 10, 11, 7, 12, 13, 14, 15, 16, 17, 18, 19, 20, 21, 22, 23, 24, 25, 26, 27, 28, 29, 30, 31, 32, 33, 34, 35, 36, 37, 38, 39, 40, 41, 42, 43, 44, 45, 46, 47, 48, 49, 50, 51, 52, 53, 54, 55, 56, 57, 58, 59, 60, 61, 62, 63, 64, 65, 66, 67, 68, 69, 70, 71, 72, 73, 74, 75, 76, 77, 78, 79, 80, 81, 82, 83, 84, 85, 86, 87, 88, 89, 90, 91, 92, 93, 94, 95, 96, 97, 98, 99, 100, 101, 102, 103, 104, 105, 106, 107, 108, 109, 110, 111, 112, 113] (by decide +kernel) (by decide +kernel)) (goodIn_sub (fun _ h => List.mem_cons_of_mem _ (List.mem_append_left _ (List.mem_append_left _ (List.mem_append_right _ h)))) (by decide +kernel))) (goodIn_sub (fun _ h => List.mem_cons_of_mem _ (List.mem_append_left _ (List.mem_append_right _ h))) (by decide +kernel))) (goodIn_sub (fun _ h => List.mem_cons_of_mem _ (List.mem_append_right _ h)) (by decide +kernel))
set_option maxRecDepth 20000 in
theorem gL_ice_X4_ice : GoodIn wsL_ice (wsV RL 73 RX4 yX4_ice wsX4_ice) := goodIn_app (goodIn_of _ (by decide +kernel)) ggL_ice_X4_ice
theorem dL_ice_0 : decode cL_ice 0 = .ok (.aload_n 2, 1) := by decide +kernel
theorem dL_ice_1 : decode cL_ice 1 = .ok (.iconst 0, 1) := by decide +kernel
theorem dL_ice_2 : decode cL_ice 2 = .ok (.aload_n 0, 1) := by decide +kernel
theorem dL_ice_3 : decode cL_ice 3 = .ok (.iload_n 1, 1) := by decide +kernel
theorem dL_ice_4 : decode cL_ice 4 = .ok (.invokevirtual 73, 3) := by decide +kernel
theorem dL_ice_7 : decode cL_ice 7 = .ok (.i2l, 1) := by decide +kernel
theorem dL_ice_8 : decode cL_ice 8 = .ok (.lastore, 1) := by decide +kernel
theorem dL_ice_9 : decode cL_ice 9 = .ok (.goto 12, 3) := by decide +kernel
theorem dL_ice_12 : decode cL_ice 12 = .ok (.astore_n 3, 1) := by decide +kernel
theorem dL_ice_13 : decode cL_ice 13 = .ok (.iconst 1, 1) := by decide +kernel
theorem dL_ice_14 : decode cL_ice 14 = .ok (.ireturn, 1) := by decide +kernel
theorem dL_ice_15 : decode cL_ice 15 = .ok (.astore_n 3, 1) := by decide +kernel
theorem dL_ice_16 : decode cL_ice 16 = .ok (.iconst 2, 1) := by decide +kernel
theorem dL_ice_17 : decode cL_ice 17 = .ok (.ireturn, 1) := by decide +kernel
theorem dL_ice_18 : decode cL_ice 18 = .ok (.astore_n 3, 1) := by decide +kernel
theorem dL_ice_19 : decode cL_ice 19 = .ok (.iconst 3, 1) := by decide +kernel
theorem dL_ice_20 : decode cL_ice 20 = .ok (.ireturn, 1) := by decide +kernel
theorem dL_ice_21 : decode cL_ice 21 = .ok (.iconst 0, 1) := by decide +kernel
theorem dL_ice_22 : decode cL_ice 22 = .ok (.ireturn, 1) := by decide +kernel
set_option maxRecDepth 20000 in
theorem ggL_steam_X4_steam : GoodIn wsL_steam wsX4_steam := goodIn_ca (goodIn_ca (goodIn_ca (goodIn_ca (goodIn_r _ [9, 10, 11, 12, 8, 13, 14, 15, 16, 17, 18, 19, 20, 21, 22, 23, 24, 25, 26, 27, 28, 29, 30, 31, 32, 33, 34, 35, 36, 37, 38, 39, 40, 41, 42, 43, 44, 45, 46, 47, 48, 49, 50, 51, 52, 53, 54, 55, 56, 57, 58, 59, 60, 61, 62, 63, 64, 65, 66, 67, 68, 69, 70, 71, 72, 73, 74, 75, 76, 77, 78, 79, 80, 81, 82, 83, 84, 85, 86, 87, 88, 89, 90, 91, 92, 93, 94, 95, 96, 97, 98, 99, 100, 101, 102, 103, 104, 105, 106, 107, 108, 109, 110, 111, 112, 113, 114, 115, 116, 117, 118, 119, 120, 121, 122, 123, 124, 125, 126] (by decide +kernel) (by decide +kernel)) (goodIn_sub (fun _ h => List.mem_cons_of_mem _ (List.mem_append_left _ (List.mem_append_left _ (List.mem_append_left _ (List.mem_append_right _ h))))) (by decide +kernel))) (goodIn_sub (fun _ h => List.mem_cons_of_mem _ (List.mem_append_left _ (List.mem_append_left _ (List.mem_append_right _ h)))) (by decide +kernel))) (goodIn_sub (fun _ h => List.mem_cons_of_mem _ (List.mem_append_left _ (List.mem_append_right _ h))) (by decide +kernel))) (goodIn_sub (fun _ h => List.mem_cons_of_mem _ (List.mem_append_right _ h)) (by decide +kernel))
set_option maxRecDepth 20000 in
theorem gL_steam_X4_steam : GoodIn wsL_steam (wsV RL 76 RX4 yX4_steam wsX4_steam) := goodIn_app (goodIn_of _ (by decide +kernel)) ggL_steam_X4_steam
theorem dL_steam_0 : decode cL_steam 0 = .ok (.aload_n 3, 1) := by decide +kernel
theorem dL_steam_1 : decode cL_steam 1 = .ok (.iconst 0, 1) := by decide +kernel
theorem dL_steam_2 : decode cL_steam 2 = .ok (.aload_n 0, 1) := by decide +kernel
theorem dL_steam_3 : decode cL_steam 3 = .ok (.iload_n 1, 1) := by decide +kernel
theorem dL_steam_4 : decode cL_steam 4 = .ok (.iload_n 2, 1) := by decide +kernel
theorem dL_steam_5 : decode cL_steam 5 = .ok (.invokevirtual 76, 3) := by decide +kernel
theorem dL_steam_8 : decode cL_steam 8 = .ok (.i2l, 1) := by decide +kernel
theorem dL_steam_9 : decode cL_steam 9 = .ok (.lastore, 1) := by decide +kernel
theorem dL_steam_10 : decode cL_steam 10 = .ok (.goto 19, 3) := by decide +kernel
theorem dL_steam_13 : decode cL_steam 13 = .ok (.astore 4, 2) := by decide +kernel
theorem dL_steam_15 : decode cL_steam 15 = .ok (.iconst 1, 1) := by decide +kernel
theorem dL_steam_16 : decode cL_steam 16 = .ok (.ireturn, 1) := by decide +kernel
theorem dL_steam_17 : decode cL_steam 17 = .ok (.astore 4, 2) := by decide +kernel
theorem dL_steam_19 : decode cL_steam 19 = .ok (.iconst 2, 1) := by decide +kernel
theorem dL_steam_20 : decode cL_steam 20 = .ok (.ireturn, 1) := by decide +kernel
theorem dL_steam_21 : decode cL_steam 21 = .ok (.astore 4, 2) := by decide +kernel
theorem dL_steam_23 : decode cL_steam 23 = .ok (.iconst 3, 1) := by decide +kernel
theorem dL_steam_24 : decode cL_steam 24 = .ok (.ireturn, 1) := by decide +kernel
theorem dL_steam_25 : decode cL_steam 25 = .ok (.astore 4, 2) := by decide +kernel
theorem dL_steam_27 : decode cL_steam 27 = .ok (.iconst 4, 1) := by decide +kernel
theorem dL_steam_28 : decode cL_steam 28 = .ok (.ireturn, 1) := by decide +kernel
theorem dL_steam_29 : decode cL_steam 29 = .ok (.iconst 0, 1) := by decide +kernel
theorem dL_steam_30 : decode cL_steam 30 = .ok (.ireturn, 1) := by decide +kernel
set_option maxRecDepth 20000 in
theorem ggL_boiling_X4_boiling : GoodIn wsL_boiling wsX4_boiling := goodIn_ca (goodIn_r _ [6, 7, 8, 5, 9, 10, 11, 12, 13, 14, 15, 16, 17] (by decide +kernel) (by decide +kernel)) (goodIn_sub (fun _ h => List.mem_cons_of_mem _ (List.mem_append_right _ h)) (by decide +kernel))
set_option maxRecDepth 20000 in
theorem gL_boiling_X4_boiling : GoodIn wsL_boiling (wsV RL 79 RX4 yX4_boiling wsX4_boiling) := goodIn_app (goodIn_of _ (by decide +kernel)) ggL_boiling_X4_boiling
theorem dL_boiling_0 : decode cL_boiling 0 = .ok (.aload_n 2, 1) := by decide +kernel
theorem dL_boiling_1 : decode cL_boiling 1 = .ok (.iconst 0, 1) := by decide +kernel
theorem dL_boiling_2 : decode cL_boiling 2 = .ok (.aload_n 0, 1) := by decide +kernel
theorem dL_boiling_3 : decode cL_boiling 3 = .ok (.iload_n 1, 1) := by decide +kernel
theorem dL_boiling_4 : decode cL_boiling 4 = .ok (.invokevirtual 79, 3) := by decide +kernel
theorem dL_boiling_7 : decode cL_boiling 7 = .ok (.i2l, 1) := by decide +kernel
theorem dL_boiling_8 : decode cL_boiling 8 = .ok (.lastore, 1) := by decide +kernel
theorem dL_boiling_9 : decode cL_boiling 9 = .ok (.goto 6, 3) := by decide +kernel
theorem dL_boiling_12 : decode cL_boiling 12 = .ok (.astore_n 3, 1) := by decide +kernel
theorem dL_boiling_13 : decode cL_boiling 13 = .ok (.iconst 1, 1) := by decide +kernel
theorem dL_boiling_14 : decode cL_boiling 14 = .ok (.ireturn, 1) := by decide +kernel
theorem dL_boiling_15 : decode cL_boiling 15 = .ok (.iconst 0, 1) := by decide +kernel
theorem dL_boiling_16 : decode cL_boiling 16 = .ok (.ireturn, 1) := by decide +kernel
set_option maxRecDepth 20000 in
theorem ggL_divide_X4_divide : GoodIn wsL_divide wsX4_divide := goodIn_ca (goodIn_ca (goodIn_ca (goodIn_r _ [8, 9, 10, 11, 12, 13, 7, 14, 15, 16, 17, 18, 19, 20, 21, 22, 23, 24, 25, 26, 27, 28, 29, 30, 31, 32, 33, 34, 35, 36, 37, 38, 39, 40, 41, 42, 43, 44, 45, 46, 47, 48, 49, 50, 51, 52, 53, 54, 55, 56, 57, 58, 59, 60, 61, 62, 63, 64, 65] (by decide +kernel) (by decide +kernel)) (goodIn_sub (fun _ h => List.mem_cons_of_mem _ (List.mem_append_left _ (List.mem_append_left _ (List.mem_append_right _ h)))) (by decide +kernel))) (goodIn_sub (fun _ h => List.mem_cons_of_mem _ (List.mem_append_left _ (List.mem_append_right _ h))) (by decide +kernel))) (goodIn_sub (fun _ h => List.mem_cons_of_mem _ (List.mem_append_right _ h)) (by decide +kernel))
set_option maxRecDepth 20000 in
theorem gL_divide_X4_divide : GoodIn wsL_divide (wsV RL 82 RX4 yX4_divide wsX4_divide) := goodIn_app (goodIn_of _ (by decide +kernel)) ggL_divide_X4_divide
theorem dL_divide_0 : decode cL_divide 0 = .ok (.aload_n 3, 1) := by decide +kernel
theorem dL_divide_1 : decode cL_divide 1 = .ok (.iconst 0, 1) := by decide +kernel
theorem dL_divide_2 : decode cL_divide 2 = .ok (.aload_n 0, 1) := by decide +kernel
theorem dL_divide_3 : decode cL_divide 3 = .ok (.iload_n 1, 1) := by decide +kernel
theorem dL_divide_4 : decode cL_divide 4 = .ok (.iload_n 2, 1) := by decide +kernel
theorem dL_divide_5 : decode cL_divide 5 = .ok (.invokevirtual 82, 3) := by decide +kernel
theorem dL_divide_8 : decode cL_divide 8 = .ok (.i2l, 1) := by decide +kernel
theorem dL_divide_9 : decode cL_divide 9 = .ok (.lastore, 1) := by decide +kernel
theorem dL_divide_10 : decode cL_divide 10 = .ok (.goto 15, 3) := by decide +kernel
theorem dL_divide_13 : decode cL_divide 13 = .ok (.astore 4, 2) := by decide +kernel
theorem dL_divide_15 : decode cL_divide 15 = .ok (.iconst 1, 1) := by decide +kernel
theorem dL_divide_16 : decode cL_divide 16 = .ok (.ireturn, 1) := by decide +kernel
theorem dL_divide_17 : decode cL_divide 17 = .ok (.astore 4, 2) := by decide +kernel
theorem dL_divide_19 : decode cL_divide 19 = .ok (.iconst 2, 1) := by decide +kernel
theorem dL_divide_20 : decode cL_divide 20 = .ok (.ireturn, 1) := by decide +kernel
theorem dL_divide_21 : decode cL_divide 21 = .ok (.astore 4, 2) := by decide +kernel
theorem dL_divide_23 : decode cL_divide 23 = .ok (.iconst 3, 1) := by decide +kernel
theorem dL_divide_24 : decode cL_divide 24 = .ok (.ireturn, 1) := by decide +kernel
theorem dL_divide_25 : decode cL_divide 25 = .ok (.iconst 0, 1) := by decide +kernel
theorem dL_divide_26 : decode cL_divide 26 = .ok (.ireturn, 1) := by decide +kernel
set_option maxRecDepth 20000 in
theorem ggL_readsAt_X4_readsAt : GoodIn wsL_readsAt wsX4_readsAt := goodIn_ca (goodIn_ca (goodIn_ca (goodIn_r _ [8, 9, 10, 11, 7, 12, 13, 14, 15, 16, 17, 18, 19, 20, 21, 22, 23, 24, 25, 26, 27, 28, 29, 30, 31, 32, 33, 34, 35, 36, 37, 38, 39, 40, 41, 42, 43, 44, 45, 46, 47, 48, 49, 50, 51, 52, 53, 54, 55, 56, 57, 58, 59, 60, 61, 62, 63, 64, 65, 66, 67, 68, 69, 70, 71, 72, 73, 74, 75, 76, 77, 78, 79, 80, 81, 82, 83, 84, 85, 86, 87, 88, 89] (by decide +kernel) (by decide +kernel)) (goodIn_sub (fun _ h => List.mem_cons_of_mem _ (List.mem_append_left _ (List.mem_append_left _ (List.mem_append_right _ h)))) (by decide +kernel))) (goodIn_sub (fun _ h => List.mem_cons_of_mem _ (List.mem_append_left _ (List.mem_append_right _ h))) (by decide +kernel))) (goodIn_sub (fun _ h => List.mem_cons_of_mem _ (List.mem_append_right _ h)) (by decide +kernel))
set_option maxRecDepth 20000 in
theorem gL_readsAt_X4_readsAt : GoodIn wsL_readsAt (wsV RL 86 RX4 yX4_readsAt wsX4_readsAt) := goodIn_app (goodIn_of _ (by decide +kernel)) ggL_readsAt_X4_readsAt
theorem dL_readsAt_0 : decode cL_readsAt 0 = .ok (.aload_n 3, 1) := by decide +kernel
theorem dL_readsAt_1 : decode cL_readsAt 1 = .ok (.iconst 0, 1) := by decide +kernel
theorem dL_readsAt_2 : decode cL_readsAt 2 = .ok (.aload_n 0, 1) := by decide +kernel
theorem dL_readsAt_3 : decode cL_readsAt 3 = .ok (.iload_n 1, 1) := by decide +kernel
theorem dL_readsAt_4 : decode cL_readsAt 4 = .ok (.iload_n 2, 1) := by decide +kernel
theorem dL_readsAt_5 : decode cL_readsAt 5 = .ok (.invokevirtual 86, 3) := by decide +kernel
theorem dL_readsAt_8 : decode cL_readsAt 8 = .ok (.i2l, 1) := by decide +kernel
theorem dL_readsAt_9 : decode cL_readsAt 9 = .ok (.lastore, 1) := by decide +kernel
theorem dL_readsAt_10 : decode cL_readsAt 10 = .ok (.goto 15, 3) := by decide +kernel
theorem dL_readsAt_13 : decode cL_readsAt 13 = .ok (.astore 4, 2) := by decide +kernel
theorem dL_readsAt_15 : decode cL_readsAt 15 = .ok (.iconst 1, 1) := by decide +kernel
theorem dL_readsAt_16 : decode cL_readsAt 16 = .ok (.ireturn, 1) := by decide +kernel
theorem dL_readsAt_17 : decode cL_readsAt 17 = .ok (.astore 4, 2) := by decide +kernel
theorem dL_readsAt_19 : decode cL_readsAt 19 = .ok (.iconst 2, 1) := by decide +kernel
theorem dL_readsAt_20 : decode cL_readsAt 20 = .ok (.ireturn, 1) := by decide +kernel
theorem dL_readsAt_21 : decode cL_readsAt 21 = .ok (.astore 4, 2) := by decide +kernel
theorem dL_readsAt_23 : decode cL_readsAt 23 = .ok (.iconst 3, 1) := by decide +kernel
theorem dL_readsAt_24 : decode cL_readsAt 24 = .ok (.ireturn, 1) := by decide +kernel
theorem dL_readsAt_25 : decode cL_readsAt 25 = .ok (.iconst 0, 1) := by decide +kernel
theorem dL_readsAt_26 : decode cL_readsAt 26 = .ok (.ireturn, 1) := by decide +kernel
set_option maxRecDepth 20000 in
theorem ggL_bath_X4_bath : GoodIn wsL_bath wsX4_bath := goodIn_ca (goodIn_ca (goodIn_ca (goodIn_ca (goodIn_r _ [9, 10, 11, 12, 8, 13, 14, 15, 16, 17, 18, 19, 20, 21, 22, 23, 24, 25, 26, 27, 28, 29, 30, 31, 32, 33, 34, 35, 36, 37, 38, 39, 40, 41, 42, 43, 44, 45, 46, 47, 48, 49, 50, 51, 52, 53, 54, 55, 56, 57, 58, 59, 60, 61, 62, 63, 64, 65, 66, 67, 68, 69, 70, 71, 72, 73, 74, 75, 76, 77, 78, 79, 80, 81, 82, 83, 84, 85, 86, 87, 88, 89, 90, 91, 92, 93, 94, 95, 96, 97, 98, 99, 100, 101, 102, 103, 104, 105, 106, 107, 108, 109, 110, 111, 112, 113, 114, 115, 116, 117, 118, 119, 120, 121, 122, 123, 124, 125, 126, 127, 128, 129, 130, 131, 132, 133, 134, 135, 136, 137, 138, 139, 140, 141, 142, 143, 144, 145, 146, 147, 148, 149, 150, 151, 152, 153, 154, 155, 156, 157, 158, 159, 160, 161, 162, 163, 164, 165, 166, 167] (by decide +kernel) (by decide +kernel)) (goodIn_sub (fun _ h => List.mem_cons_of_mem _ (List.mem_append_left _ (List.mem_append_left _ (List.mem_append_left _ (List.mem_append_right _ h))))) (by decide +kernel))) (goodIn_sub (fun _ h => List.mem_cons_of_mem _ (List.mem_append_left _ (List.mem_append_left _ (List.mem_append_right _ h)))) (by decide +kernel))) (goodIn_sub (fun _ h => List.mem_cons_of_mem _ (List.mem_append_left _ (List.mem_append_right _ h))) (by decide +kernel))) (goodIn_sub (fun _ h => List.mem_cons_of_mem _ (List.mem_append_right _ h)) (by decide +kernel))
set_option maxRecDepth 20000 in
theorem gL_bath_X4_bath : GoodIn wsL_bath (wsV RL 89 RX4 yX4_bath wsX4_bath) := goodIn_app (goodIn_of _ (by decide +kernel)) ggL_bath_X4_bath
theorem dL_bath_0 : decode cL_bath 0 = .ok (.aload 4, 2) := by decide +kernel
theorem dL_bath_2 : decode cL_bath 2 = .ok (.iconst 0, 1) := by decide +kernel
theorem dL_bath_3 : decode cL_bath 3 = .ok (.aload_n 0, 1) := by decide +kernel
theorem dL_bath_4 : decode cL_bath 4 = .ok (.iload_n 1, 1) := by decide +kernel
theorem dL_bath_5 : decode cL_bath 5 = .ok (.iload_n 2, 1) := by decide +kernel
theorem dL_bath_6 : decode cL_bath 6 = .ok (.iload_n 3, 1) := by decide +kernel
theorem dL_bath_7 : decode cL_bath 7 = .ok (.invokevirtual 89, 3) := by decide +kernel
theorem dL_bath_10 : decode cL_bath 10 = .ok (.i2l, 1) := by decide +kernel
theorem dL_bath_11 : decode cL_bath 11 = .ok (.lastore, 1) := by decide +kernel
theorem dL_bath_12 : decode cL_bath 12 = .ok (.goto 19, 3) := by decide +kernel
theorem dL_bath_15 : decode cL_bath 15 = .ok (.astore 5, 2) := by decide +kernel
theorem dL_bath_17 : decode cL_bath 17 = .ok (.iconst 1, 1) := by decide +kernel
theorem dL_bath_18 : decode cL_bath 18 = .ok (.ireturn, 1) := by decide +kernel
theorem dL_bath_19 : decode cL_bath 19 = .ok (.astore 5, 2) := by decide +kernel
theorem dL_bath_21 : decode cL_bath 21 = .ok (.iconst 2, 1) := by decide +kernel
theorem dL_bath_22 : decode cL_bath 22 = .ok (.ireturn, 1) := by decide +kernel
theorem dL_bath_23 : decode cL_bath 23 = .ok (.astore 5, 2) := by decide +kernel
theorem dL_bath_25 : decode cL_bath 25 = .ok (.iconst 3, 1) := by decide +kernel
theorem dL_bath_26 : decode cL_bath 26 = .ok (.ireturn, 1) := by decide +kernel
theorem dL_bath_27 : decode cL_bath 27 = .ok (.astore 5, 2) := by decide +kernel
theorem dL_bath_29 : decode cL_bath 29 = .ok (.iconst 4, 1) := by decide +kernel
theorem dL_bath_30 : decode cL_bath 30 = .ok (.ireturn, 1) := by decide +kernel
theorem dL_bath_31 : decode cL_bath 31 = .ok (.iconst 0, 1) := by decide +kernel
theorem dL_bath_32 : decode cL_bath 32 = .ok (.ireturn, 1) := by decide +kernel
set_option maxRecDepth 20000 in
theorem ggL_error_X4_error : GoodIn wsL_error wsX4_error := goodIn_ca (goodIn_ca (goodIn_r _ [7, 8, 9, 10, 6, 11, 12, 13, 14, 15, 16, 17, 18, 19, 20, 21, 22, 23, 24, 25, 26, 27, 28, 29, 30, 31, 32, 33, 34, 35, 36, 37, 38, 39, 40, 41, 42, 43, 44, 45, 46, 47, 48, 49, 50, 51, 52, 53] (by decide +kernel) (by decide +kernel)) (goodIn_sub (fun _ h => List.mem_cons_of_mem _ (List.mem_append_left _ (List.mem_append_right _ h))) (by decide +kernel))) (goodIn_sub (fun _ h => List.mem_cons_of_mem _ (List.mem_append_right _ h)) (by decide +kernel))
set_option maxRecDepth 20000 in
theorem gL_error_X4_error : GoodIn wsL_error (wsV RL 92 RX4 yX4_error wsX4_error) := goodIn_app (goodIn_of _ (by decide +kernel)) ggL_error_X4_error
theorem dL_error_0 : decode cL_error 0 = .ok (.aload_n 2, 1) := by decide +kernel
theorem dL_error_1 : decode cL_error 1 = .ok (.iconst 0, 1) := by decide +kernel
theorem dL_error_2 : decode cL_error 2 = .ok (.aload_n 0, 1) := by decide +kernel
theorem dL_error_3 : decode cL_error 3 = .ok (.iload_n 1, 1) := by decide +kernel
theorem dL_error_4 : decode cL_error 4 = .ok (.invokevirtual 92, 3) := by decide +kernel
theorem dL_error_7 : decode cL_error 7 = .ok (.i2l, 1) := by decide +kernel
theorem dL_error_8 : decode cL_error 8 = .ok (.lastore, 1) := by decide +kernel
theorem dL_error_9 : decode cL_error 9 = .ok (.goto 9, 3) := by decide +kernel
theorem dL_error_12 : decode cL_error 12 = .ok (.astore_n 3, 1) := by decide +kernel
theorem dL_error_13 : decode cL_error 13 = .ok (.iconst 1, 1) := by decide +kernel
theorem dL_error_14 : decode cL_error 14 = .ok (.ireturn, 1) := by decide +kernel
theorem dL_error_15 : decode cL_error 15 = .ok (.astore_n 3, 1) := by decide +kernel
theorem dL_error_16 : decode cL_error 16 = .ok (.iconst 2, 1) := by decide +kernel
theorem dL_error_17 : decode cL_error 17 = .ok (.ireturn, 1) := by decide +kernel
theorem dL_error_18 : decode cL_error 18 = .ok (.iconst 0, 1) := by decide +kernel
theorem dL_error_19 : decode cL_error 19 = .ok (.ireturn, 1) := by decide +kernel
set_option maxRecDepth 20000 in
theorem ggL_tests_X4_tests : GoodIn wsL_tests wsX4_tests := goodIn_ca (goodIn_r _ [6, 7, 8, 9, 5, 10, 11, 12, 13, 14, 15, 16, 17, 18, 19, 20, 21, 22, 23, 24, 25, 26, 27, 28, 29, 30, 31, 32, 33, 34, 35, 36, 37, 38, 39, 40] (by decide +kernel) (by decide +kernel)) (goodIn_sub (fun _ h => List.mem_cons_of_mem _ (List.mem_append_right _ h)) (by decide +kernel))
set_option maxRecDepth 20000 in
theorem gL_tests_X4_tests : GoodIn wsL_tests (wsV RL 95 RX4 yX4_tests wsX4_tests) := goodIn_app (goodIn_of _ (by decide +kernel)) ggL_tests_X4_tests
theorem dL_tests_0 : decode cL_tests 0 = .ok (.aload_n 2, 1) := by decide +kernel
theorem dL_tests_1 : decode cL_tests 1 = .ok (.iconst 0, 1) := by decide +kernel
theorem dL_tests_2 : decode cL_tests 2 = .ok (.aload_n 0, 1) := by decide +kernel
theorem dL_tests_3 : decode cL_tests 3 = .ok (.iload_n 1, 1) := by decide +kernel
theorem dL_tests_4 : decode cL_tests 4 = .ok (.invokevirtual 95, 3) := by decide +kernel
theorem dL_tests_7 : decode cL_tests 7 = .ok (.i2l, 1) := by decide +kernel
theorem dL_tests_8 : decode cL_tests 8 = .ok (.lastore, 1) := by decide +kernel
theorem dL_tests_9 : decode cL_tests 9 = .ok (.goto 6, 3) := by decide +kernel
theorem dL_tests_12 : decode cL_tests 12 = .ok (.astore_n 3, 1) := by decide +kernel
theorem dL_tests_13 : decode cL_tests 13 = .ok (.iconst 1, 1) := by decide +kernel
theorem dL_tests_14 : decode cL_tests 14 = .ok (.ireturn, 1) := by decide +kernel
theorem dL_tests_15 : decode cL_tests 15 = .ok (.iconst 0, 1) := by decide +kernel
theorem dL_tests_16 : decode cL_tests 16 = .ok (.ireturn, 1) := by decide +kernel
set_option maxRecDepth 20000 in
theorem ggL_begin_X4_begin : GoodIn wsL_begin wsX4_begin := goodIn_ca (goodIn_r _ [6, 7, 8, 9, 5, 10, 11, 12, 13, 14, 15, 16, 17, 18, 19, 20, 21, 22, 23, 24, 25, 26, 27, 28, 29, 30, 31, 32, 33, 34, 35, 36, 37, 38, 39, 40] (by decide +kernel) (by decide +kernel)) (goodIn_sub (fun _ h => List.mem_cons_of_mem _ (List.mem_append_right _ h)) (by decide +kernel))
set_option maxRecDepth 20000 in
theorem gL_begin_X4_begin : GoodIn wsL_begin (wsV RL 98 RX4 yX4_begin wsX4_begin) := goodIn_app (goodIn_of _ (by decide +kernel)) ggL_begin_X4_begin
theorem dL_begin_0 : decode cL_begin 0 = .ok (.aload_n 2, 1) := by decide +kernel
theorem dL_begin_1 : decode cL_begin 1 = .ok (.iconst 0, 1) := by decide +kernel
theorem dL_begin_2 : decode cL_begin 2 = .ok (.aload_n 0, 1) := by decide +kernel
theorem dL_begin_3 : decode cL_begin 3 = .ok (.iload_n 1, 1) := by decide +kernel
theorem dL_begin_4 : decode cL_begin 4 = .ok (.invokevirtual 98, 3) := by decide +kernel
theorem dL_begin_7 : decode cL_begin 7 = .ok (.i2l, 1) := by decide +kernel
theorem dL_begin_8 : decode cL_begin 8 = .ok (.lastore, 1) := by decide +kernel
theorem dL_begin_9 : decode cL_begin 9 = .ok (.goto 6, 3) := by decide +kernel
theorem dL_begin_12 : decode cL_begin 12 = .ok (.astore_n 3, 1) := by decide +kernel
theorem dL_begin_13 : decode cL_begin 13 = .ok (.iconst 1, 1) := by decide +kernel
theorem dL_begin_14 : decode cL_begin 14 = .ok (.ireturn, 1) := by decide +kernel
theorem dL_begin_15 : decode cL_begin 15 = .ok (.iconst 0, 1) := by decide +kernel
theorem dL_begin_16 : decode cL_begin 16 = .ok (.ireturn, 1) := by decide +kernel
set_option maxRecDepth 20000 in
theorem ggL_worst_X4_worst : GoodIn wsL_worst wsX4_worst := goodIn_ca (goodIn_ca (goodIn_r _ [7, 8, 9, 10, 6, 11, 12, 13, 14, 15, 16, 17, 18, 19, 20, 21, 22, 23, 24, 25, 26, 27, 28, 29, 30, 31, 32, 33, 34, 35, 36, 37, 38, 39, 40, 41, 42, 43, 44, 45, 46, 47, 48, 49, 50, 51, 52, 53, 54, 55, 56, 57, 58, 59, 60] (by decide +kernel) (by decide +kernel)) (goodIn_sub (fun _ h => List.mem_cons_of_mem _ (List.mem_append_left _ (List.mem_append_right _ h))) (by decide +kernel))) (goodIn_sub (fun _ h => List.mem_cons_of_mem _ (List.mem_append_right _ h)) (by decide +kernel))
set_option maxRecDepth 20000 in
theorem gL_worst_X4_worst : GoodIn wsL_worst (wsV RL 101 RX4 yX4_worst wsX4_worst) := goodIn_app (goodIn_of _ (by decide +kernel)) ggL_worst_X4_worst
theorem dL_worst_0 : decode cL_worst 0 = .ok (.aload_n 2, 1) := by decide +kernel
theorem dL_worst_1 : decode cL_worst 1 = .ok (.iconst 0, 1) := by decide +kernel
theorem dL_worst_2 : decode cL_worst 2 = .ok (.aload_n 0, 1) := by decide +kernel
theorem dL_worst_3 : decode cL_worst 3 = .ok (.iload_n 1, 1) := by decide +kernel
theorem dL_worst_4 : decode cL_worst 4 = .ok (.invokevirtual 101, 3) := by decide +kernel
theorem dL_worst_7 : decode cL_worst 7 = .ok (.i2l, 1) := by decide +kernel
theorem dL_worst_8 : decode cL_worst 8 = .ok (.lastore, 1) := by decide +kernel
theorem dL_worst_9 : decode cL_worst 9 = .ok (.goto 9, 3) := by decide +kernel
theorem dL_worst_12 : decode cL_worst 12 = .ok (.astore_n 3, 1) := by decide +kernel
theorem dL_worst_13 : decode cL_worst 13 = .ok (.iconst 1, 1) := by decide +kernel
theorem dL_worst_14 : decode cL_worst 14 = .ok (.ireturn, 1) := by decide +kernel
theorem dL_worst_15 : decode cL_worst 15 = .ok (.astore_n 3, 1) := by decide +kernel
theorem dL_worst_16 : decode cL_worst 16 = .ok (.iconst 2, 1) := by decide +kernel
theorem dL_worst_17 : decode cL_worst 17 = .ok (.ireturn, 1) := by decide +kernel
theorem dL_worst_18 : decode cL_worst 18 = .ok (.iconst 0, 1) := by decide +kernel
theorem dL_worst_19 : decode cL_worst 19 = .ok (.ireturn, 1) := by decide +kernel
set_option maxRecDepth 20000 in
theorem ggL_grade_X4_grade : GoodIn wsL_grade wsX4_grade := goodIn_ca (goodIn_ca (goodIn_r _ [7, 8, 9, 10, 6, 11, 12, 13, 14, 15, 16, 17, 18, 19, 20, 21, 22, 23, 24, 25, 26, 27, 28, 29, 30, 31, 32, 33, 34, 35, 36, 37, 38, 39, 40, 41, 42, 43, 44, 45, 46, 47, 48, 49, 50, 51, 52, 53, 54, 55, 56, 57, 58, 59, 60, 61, 62, 63] (by decide +kernel) (by decide +kernel)) (goodIn_sub (fun _ h => List.mem_cons_of_mem _ (List.mem_append_left _ (List.mem_append_right _ h))) (by decide +kernel))) (goodIn_sub (fun _ h => List.mem_cons_of_mem _ (List.mem_append_right _ h)) (by decide +kernel))
set_option maxRecDepth 20000 in
theorem gL_grade_X4_grade : GoodIn wsL_grade (wsV RL 104 RX4 yX4_grade wsX4_grade) := goodIn_app (goodIn_of _ (by decide +kernel)) ggL_grade_X4_grade
theorem dL_grade_0 : decode cL_grade 0 = .ok (.aload_n 2, 1) := by decide +kernel
theorem dL_grade_1 : decode cL_grade 1 = .ok (.iconst 0, 1) := by decide +kernel
theorem dL_grade_2 : decode cL_grade 2 = .ok (.aload_n 0, 1) := by decide +kernel
theorem dL_grade_3 : decode cL_grade 3 = .ok (.iload_n 1, 1) := by decide +kernel
theorem dL_grade_4 : decode cL_grade 4 = .ok (.invokevirtual 104, 3) := by decide +kernel
theorem dL_grade_7 : decode cL_grade 7 = .ok (.i2l, 1) := by decide +kernel
theorem dL_grade_8 : decode cL_grade 8 = .ok (.lastore, 1) := by decide +kernel
theorem dL_grade_9 : decode cL_grade 9 = .ok (.goto 9, 3) := by decide +kernel
theorem dL_grade_12 : decode cL_grade 12 = .ok (.astore_n 3, 1) := by decide +kernel
theorem dL_grade_13 : decode cL_grade 13 = .ok (.iconst 1, 1) := by decide +kernel
theorem dL_grade_14 : decode cL_grade 14 = .ok (.ireturn, 1) := by decide +kernel
theorem dL_grade_15 : decode cL_grade 15 = .ok (.astore_n 3, 1) := by decide +kernel
theorem dL_grade_16 : decode cL_grade 16 = .ok (.iconst 2, 1) := by decide +kernel
theorem dL_grade_17 : decode cL_grade 17 = .ok (.ireturn, 1) := by decide +kernel
theorem dL_grade_18 : decode cL_grade 18 = .ok (.iconst 0, 1) := by decide +kernel
theorem dL_grade_19 : decode cL_grade 19 = .ok (.ireturn, 1) := by decide +kernel
set_option maxRecDepth 20000 in
theorem ggL_certify_X4_certify : GoodIn wsL_certify wsX4_certify := goodIn_ca (goodIn_ca (goodIn_r _ [7, 8, 9, 10, 11, 12, 13, 6, 14, 15, 16, 17, 18, 19, 20, 21, 22, 23, 24, 25, 26, 27, 28, 29, 30, 31, 32, 33, 34, 35, 36, 37, 38, 39, 40, 41, 42, 43, 44, 45, 46, 47, 48, 49, 50, 51, 52, 53, 54, 55, 56, 57, 58, 59, 60, 61, 62, 63, 64] (by decide +kernel) (by decide +kernel)) (goodIn_sub (fun _ h => List.mem_cons_of_mem _ (List.mem_append_left _ (List.mem_append_right _ h))) (by decide +kernel))) (goodIn_sub (fun _ h => List.mem_cons_of_mem _ (List.mem_append_right _ h)) (by decide +kernel))
set_option maxRecDepth 20000 in
theorem gL_certify_X4_certify : GoodIn wsL_certify (wsV RL 108 RX4 yX4_certify wsX4_certify) := goodIn_app (goodIn_of _ (by decide +kernel)) ggL_certify_X4_certify
theorem dL_certify_0 : decode cL_certify 0 = .ok (.aload_n 2, 1) := by decide +kernel
theorem dL_certify_1 : decode cL_certify 1 = .ok (.iconst 0, 1) := by decide +kernel
theorem dL_certify_2 : decode cL_certify 2 = .ok (.aload_n 0, 1) := by decide +kernel
theorem dL_certify_3 : decode cL_certify 3 = .ok (.iload_n 1, 1) := by decide +kernel
theorem dL_certify_4 : decode cL_certify 4 = .ok (.invokevirtual 108, 3) := by decide +kernel
theorem dL_certify_7 : decode cL_certify 7 = .ok (.i2l, 1) := by decide +kernel
theorem dL_certify_8 : decode cL_certify 8 = .ok (.lastore, 1) := by decide +kernel
theorem dL_certify_9 : decode cL_certify 9 = .ok (.goto 9, 3) := by decide +kernel
theorem dL_certify_12 : decode cL_certify 12 = .ok (.astore_n 3, 1) := by decide +kernel
theorem dL_certify_13 : decode cL_certify 13 = .ok (.iconst 1, 1) := by decide +kernel
theorem dL_certify_14 : decode cL_certify 14 = .ok (.ireturn, 1) := by decide +kernel
theorem dL_certify_15 : decode cL_certify 15 = .ok (.astore_n 3, 1) := by decide +kernel
theorem dL_certify_16 : decode cL_certify 16 = .ok (.iconst 2, 1) := by decide +kernel
theorem dL_certify_17 : decode cL_certify 17 = .ok (.ireturn, 1) := by decide +kernel
theorem dL_certify_18 : decode cL_certify 18 = .ok (.iconst 0, 1) := by decide +kernel
theorem dL_certify_19 : decode cL_certify 19 = .ok (.ireturn, 1) := by decide +kernel
set_option maxRecDepth 20000 in
theorem ggL_isCertified_X4_isCertified : GoodIn wsL_isCertified wsX4_isCertified := goodIn_ca (goodIn_r _ [6, 7, 8, 9, 10, 5, 11, 12, 13, 14, 15, 16, 17, 18, 19, 20, 21, 22, 23, 24, 25, 26, 27, 28, 29, 30, 31, 32, 33, 34, 35, 36, 37, 38, 39, 40, 41, 42, 43, 44, 45] (by decide +kernel) (by decide +kernel)) (goodIn_sub (fun _ h => List.mem_cons_of_mem _ (List.mem_append_right _ h)) (by decide +kernel))
set_option maxRecDepth 20000 in
theorem gL_isCertified_X4_isCertified : GoodIn wsL_isCertified (wsV RL 111 RX4 yX4_isCertified wsX4_isCertified) := goodIn_app (goodIn_of _ (by decide +kernel)) ggL_isCertified_X4_isCertified
theorem dL_isCertified_0 : decode cL_isCertified 0 = .ok (.aload_n 2, 1) := by decide +kernel
theorem dL_isCertified_1 : decode cL_isCertified 1 = .ok (.iconst 0, 1) := by decide +kernel
theorem dL_isCertified_2 : decode cL_isCertified 2 = .ok (.aload_n 0, 1) := by decide +kernel
theorem dL_isCertified_3 : decode cL_isCertified 3 = .ok (.iload_n 1, 1) := by decide +kernel
theorem dL_isCertified_4 : decode cL_isCertified 4 = .ok (.invokevirtual 111, 3) := by decide +kernel
theorem dL_isCertified_7 : decode cL_isCertified 7 = .ok (.ifCond .eq 7, 3) := by decide +kernel
theorem dL_isCertified_10 : decode cL_isCertified 10 = .ok (.lconst 1, 1) := by decide +kernel
theorem dL_isCertified_11 : decode cL_isCertified 11 = .ok (.goto 4, 3) := by decide +kernel
theorem dL_isCertified_14 : decode cL_isCertified 14 = .ok (.lconst 0, 1) := by decide +kernel
theorem dL_isCertified_15 : decode cL_isCertified 15 = .ok (.lastore, 1) := by decide +kernel
theorem dL_isCertified_16 : decode cL_isCertified 16 = .ok (.goto 6, 3) := by decide +kernel
theorem dL_isCertified_19 : decode cL_isCertified 19 = .ok (.astore_n 3, 1) := by decide +kernel
theorem dL_isCertified_20 : decode cL_isCertified 20 = .ok (.iconst 1, 1) := by decide +kernel
theorem dL_isCertified_21 : decode cL_isCertified 21 = .ok (.ireturn, 1) := by decide +kernel
theorem dL_isCertified_22 : decode cL_isCertified 22 = .ok (.iconst 0, 1) := by decide +kernel
theorem dL_isCertified_23 : decode cL_isCertified 23 = .ok (.ireturn, 1) := by decide +kernel
set_option maxRecDepth 20000 in
theorem ggL_breakThread_X4_breakThread : GoodIn wsL_breakThread wsX4_breakThread := goodIn_ca (goodIn_ca (goodIn_ca (goodIn_r _ [8, 9, 10, 11, 7, 12, 13, 14, 15, 16, 17, 18, 19, 20, 21, 22, 23, 24, 25, 26, 27, 28, 29, 30, 31, 32, 33, 34, 35, 36, 37, 38, 39, 40, 41, 42, 43, 44, 45, 46, 47, 48, 49] (by decide +kernel) (by decide +kernel)) (goodIn_sub (fun _ h => List.mem_cons_of_mem _ (List.mem_append_left _ (List.mem_append_left _ (List.mem_append_right _ h)))) (by decide +kernel))) (goodIn_sub (fun _ h => List.mem_cons_of_mem _ (List.mem_append_left _ (List.mem_append_right _ h))) (by decide +kernel))) (goodIn_sub (fun _ h => List.mem_cons_of_mem _ (List.mem_append_right _ h)) (by decide +kernel))
set_option maxRecDepth 20000 in
theorem gL_breakThread_X4_breakThread : GoodIn wsL_breakThread (wsV RL 115 RX4 yX4_breakThread wsX4_breakThread) := goodIn_app (goodIn_of _ (by decide +kernel)) ggL_breakThread_X4_breakThread
theorem dL_breakThread_0 : decode cL_breakThread 0 = .ok (.aload_n 3, 1) := by decide +kernel
theorem dL_breakThread_1 : decode cL_breakThread 1 = .ok (.iconst 0, 1) := by decide +kernel
theorem dL_breakThread_2 : decode cL_breakThread 2 = .ok (.aload_n 0, 1) := by decide +kernel
theorem dL_breakThread_3 : decode cL_breakThread 3 = .ok (.iload_n 1, 1) := by decide +kernel
theorem dL_breakThread_4 : decode cL_breakThread 4 = .ok (.iload_n 2, 1) := by decide +kernel
theorem dL_breakThread_5 : decode cL_breakThread 5 = .ok (.invokevirtual 115, 3) := by decide +kernel
theorem dL_breakThread_8 : decode cL_breakThread 8 = .ok (.i2l, 1) := by decide +kernel
theorem dL_breakThread_9 : decode cL_breakThread 9 = .ok (.lastore, 1) := by decide +kernel
theorem dL_breakThread_10 : decode cL_breakThread 10 = .ok (.goto 15, 3) := by decide +kernel
theorem dL_breakThread_13 : decode cL_breakThread 13 = .ok (.astore 4, 2) := by decide +kernel
theorem dL_breakThread_15 : decode cL_breakThread 15 = .ok (.iconst 1, 1) := by decide +kernel
theorem dL_breakThread_16 : decode cL_breakThread 16 = .ok (.ireturn, 1) := by decide +kernel
theorem dL_breakThread_17 : decode cL_breakThread 17 = .ok (.astore 4, 2) := by decide +kernel
theorem dL_breakThread_19 : decode cL_breakThread 19 = .ok (.iconst 2, 1) := by decide +kernel
theorem dL_breakThread_20 : decode cL_breakThread 20 = .ok (.ireturn, 1) := by decide +kernel
theorem dL_breakThread_21 : decode cL_breakThread 21 = .ok (.astore 4, 2) := by decide +kernel
theorem dL_breakThread_23 : decode cL_breakThread 23 = .ok (.iconst 3, 1) := by decide +kernel
theorem dL_breakThread_24 : decode cL_breakThread 24 = .ok (.ireturn, 1) := by decide +kernel
theorem dL_breakThread_25 : decode cL_breakThread 25 = .ok (.iconst 0, 1) := by decide +kernel
theorem dL_breakThread_26 : decode cL_breakThread 26 = .ok (.ireturn, 1) := by decide +kernel
set_option maxRecDepth 20000 in
theorem ggL_isBroken_X4_isBroken : GoodIn wsL_isBroken wsX4_isBroken := goodIn_ca (goodIn_r _ [6, 7, 8, 9, 5, 10, 11, 12, 13, 14, 15, 16, 17, 18, 19, 20, 21, 22, 23, 24, 25, 26, 27, 28, 29, 30, 31, 32, 33, 34, 35, 36, 37] (by decide +kernel) (by decide +kernel)) (goodIn_sub (fun _ h => List.mem_cons_of_mem _ (List.mem_append_right _ h)) (by decide +kernel))
set_option maxRecDepth 20000 in
theorem gL_isBroken_X4_isBroken : GoodIn wsL_isBroken (wsV RL 118 RX4 yX4_isBroken wsX4_isBroken) := goodIn_app (goodIn_of _ (by decide +kernel)) ggL_isBroken_X4_isBroken
theorem dL_isBroken_0 : decode cL_isBroken 0 = .ok (.aload_n 2, 1) := by decide +kernel
theorem dL_isBroken_1 : decode cL_isBroken 1 = .ok (.iconst 0, 1) := by decide +kernel
theorem dL_isBroken_2 : decode cL_isBroken 2 = .ok (.aload_n 0, 1) := by decide +kernel
theorem dL_isBroken_3 : decode cL_isBroken 3 = .ok (.iload_n 1, 1) := by decide +kernel
theorem dL_isBroken_4 : decode cL_isBroken 4 = .ok (.invokevirtual 118, 3) := by decide +kernel
theorem dL_isBroken_7 : decode cL_isBroken 7 = .ok (.ifCond .eq 7, 3) := by decide +kernel
theorem dL_isBroken_10 : decode cL_isBroken 10 = .ok (.lconst 1, 1) := by decide +kernel
theorem dL_isBroken_11 : decode cL_isBroken 11 = .ok (.goto 4, 3) := by decide +kernel
theorem dL_isBroken_14 : decode cL_isBroken 14 = .ok (.lconst 0, 1) := by decide +kernel
theorem dL_isBroken_15 : decode cL_isBroken 15 = .ok (.lastore, 1) := by decide +kernel
theorem dL_isBroken_16 : decode cL_isBroken 16 = .ok (.goto 6, 3) := by decide +kernel
theorem dL_isBroken_19 : decode cL_isBroken 19 = .ok (.astore_n 3, 1) := by decide +kernel
theorem dL_isBroken_20 : decode cL_isBroken 20 = .ok (.iconst 1, 1) := by decide +kernel
theorem dL_isBroken_21 : decode cL_isBroken 21 = .ok (.ireturn, 1) := by decide +kernel
theorem dL_isBroken_22 : decode cL_isBroken 22 = .ok (.iconst 0, 1) := by decide +kernel
theorem dL_isBroken_23 : decode cL_isBroken 23 = .ok (.ireturn, 1) := by decide +kernel
set_option maxRecDepth 20000 in
theorem ggL_keep_X4_keep : GoodIn wsL_keep wsX4_keep := goodIn_ca (goodIn_r _ [6, 7, 8, 9, 5, 10, 11, 12, 13, 14, 15, 16, 17, 18, 19, 20, 21, 22, 23, 24, 25, 26, 27, 28, 29, 30, 31, 32, 33, 34, 35, 36, 37] (by decide +kernel) (by decide +kernel)) (goodIn_sub (fun _ h => List.mem_cons_of_mem _ (List.mem_append_right _ h)) (by decide +kernel))
set_option maxRecDepth 20000 in
theorem gL_keep_X4_keep : GoodIn wsL_keep (wsV RL 121 RX4 yX4_keep wsX4_keep) := goodIn_app (goodIn_of _ (by decide +kernel)) ggL_keep_X4_keep
theorem dL_keep_0 : decode cL_keep 0 = .ok (.aload_n 3, 1) := by decide +kernel
theorem dL_keep_1 : decode cL_keep 1 = .ok (.iconst 0, 1) := by decide +kernel
theorem dL_keep_2 : decode cL_keep 2 = .ok (.aload_n 0, 1) := by decide +kernel
theorem dL_keep_3 : decode cL_keep 3 = .ok (.iload_n 1, 1) := by decide +kernel
theorem dL_keep_4 : decode cL_keep 4 = .ok (.iload_n 2, 1) := by decide +kernel
theorem dL_keep_5 : decode cL_keep 5 = .ok (.invokevirtual 121, 3) := by decide +kernel
theorem dL_keep_8 : decode cL_keep 8 = .ok (.ifCond .eq 7, 3) := by decide +kernel
theorem dL_keep_11 : decode cL_keep 11 = .ok (.lconst 1, 1) := by decide +kernel
theorem dL_keep_12 : decode cL_keep 12 = .ok (.goto 4, 3) := by decide +kernel
theorem dL_keep_15 : decode cL_keep 15 = .ok (.lconst 0, 1) := by decide +kernel
theorem dL_keep_16 : decode cL_keep 16 = .ok (.lastore, 1) := by decide +kernel
theorem dL_keep_17 : decode cL_keep 17 = .ok (.goto 7, 3) := by decide +kernel
theorem dL_keep_20 : decode cL_keep 20 = .ok (.astore 4, 2) := by decide +kernel
theorem dL_keep_22 : decode cL_keep 22 = .ok (.iconst 1, 1) := by decide +kernel
theorem dL_keep_23 : decode cL_keep 23 = .ok (.ireturn, 1) := by decide +kernel
theorem dL_keep_24 : decode cL_keep 24 = .ok (.iconst 0, 1) := by decide +kernel
theorem dL_keep_25 : decode cL_keep 25 = .ok (.ireturn, 1) := by decide +kernel
set_option maxRecDepth 20000 in
theorem ggL_shake_X4_shake : GoodIn wsL_shake wsX4_shake := goodIn_ca (goodIn_ca (goodIn_ca (goodIn_r _ [8, 9, 10, 11, 12, 13, 14, 15, 7, 16, 17, 18, 19, 20, 21, 22, 23, 24, 25, 26, 27, 28, 29, 30, 31, 32, 33, 34, 35, 36, 37, 38, 39, 40, 41, 42, 43] (by decide +kernel) (by decide +kernel)) (goodIn_sub (fun _ h => List.mem_cons_of_mem _ (List.mem_append_left _ (List.mem_append_left _ (List.mem_append_right _ h)))) (by decide +kernel))) (goodIn_sub (fun _ h => List.mem_cons_of_mem _ (List.mem_append_left _ (List.mem_append_right _ h))) (by decide +kernel))) (goodIn_sub (fun _ h => List.mem_cons_of_mem _ (List.mem_append_right _ h)) (by decide +kernel))
set_option maxRecDepth 20000 in
theorem gL_shake_X4_shake : GoodIn wsL_shake (wsV RL 125 RX4 yX4_shake wsX4_shake) := goodIn_app (goodIn_of _ (by decide +kernel)) ggL_shake_X4_shake
theorem dL_shake_0 : decode cL_shake 0 = .ok (.aload_n 2, 1) := by decide +kernel
theorem dL_shake_1 : decode cL_shake 1 = .ok (.iconst 0, 1) := by decide +kernel
theorem dL_shake_2 : decode cL_shake 2 = .ok (.aload_n 0, 1) := by decide +kernel
theorem dL_shake_3 : decode cL_shake 3 = .ok (.iload_n 1, 1) := by decide +kernel
theorem dL_shake_4 : decode cL_shake 4 = .ok (.invokevirtual 125, 3) := by decide +kernel
theorem dL_shake_7 : decode cL_shake 7 = .ok (.i2l, 1) := by decide +kernel
theorem dL_shake_8 : decode cL_shake 8 = .ok (.lastore, 1) := by decide +kernel
theorem dL_shake_9 : decode cL_shake 9 = .ok (.goto 12, 3) := by decide +kernel
theorem dL_shake_12 : decode cL_shake 12 = .ok (.astore_n 3, 1) := by decide +kernel
theorem dL_shake_13 : decode cL_shake 13 = .ok (.iconst 1, 1) := by decide +kernel
theorem dL_shake_14 : decode cL_shake 14 = .ok (.ireturn, 1) := by decide +kernel
theorem dL_shake_15 : decode cL_shake 15 = .ok (.astore_n 3, 1) := by decide +kernel
theorem dL_shake_16 : decode cL_shake 16 = .ok (.iconst 2, 1) := by decide +kernel
theorem dL_shake_17 : decode cL_shake 17 = .ok (.ireturn, 1) := by decide +kernel
theorem dL_shake_18 : decode cL_shake 18 = .ok (.astore_n 3, 1) := by decide +kernel
theorem dL_shake_19 : decode cL_shake 19 = .ok (.iconst 3, 1) := by decide +kernel
theorem dL_shake_20 : decode cL_shake 20 = .ok (.ireturn, 1) := by decide +kernel
theorem dL_shake_21 : decode cL_shake 21 = .ok (.iconst 0, 1) := by decide +kernel
theorem dL_shake_22 : decode cL_shake 22 = .ok (.ireturn, 1) := by decide +kernel
set_option maxRecDepth 20000 in
theorem ggL_barometer_X4_barometer : GoodIn wsL_barometer wsX4_barometer := goodIn_ca (goodIn_r _ [6, 7, 8, 9, 5, 10, 11, 12] (by decide +kernel) (by decide +kernel)) (goodIn_sub (fun _ h => List.mem_cons_of_mem _ (List.mem_append_right _ h)) (by decide +kernel))
set_option maxRecDepth 20000 in
theorem gL_barometer_X4_barometer : GoodIn wsL_barometer (wsV RL 128 RX4 yX4_barometer wsX4_barometer) := goodIn_app (goodIn_of _ (by decide +kernel)) ggL_barometer_X4_barometer
theorem dL_barometer_0 : decode cL_barometer 0 = .ok (.aload 5, 2) := by decide +kernel
theorem dL_barometer_2 : decode cL_barometer 2 = .ok (.iconst 0, 1) := by decide +kernel
theorem dL_barometer_3 : decode cL_barometer 3 = .ok (.aload_n 0, 1) := by decide +kernel
theorem dL_barometer_4 : decode cL_barometer 4 = .ok (.iload_n 1, 1) := by decide +kernel
theorem dL_barometer_5 : decode cL_barometer 5 = .ok (.iload_n 2, 1) := by decide +kernel
theorem dL_barometer_6 : decode cL_barometer 6 = .ok (.iload_n 3, 1) := by decide +kernel
theorem dL_barometer_7 : decode cL_barometer 7 = .ok (.iload 4, 2) := by decide +kernel
theorem dL_barometer_9 : decode cL_barometer 9 = .ok (.invokevirtual 128, 3) := by decide +kernel
theorem dL_barometer_12 : decode cL_barometer 12 = .ok (.i2l, 1) := by decide +kernel
theorem dL_barometer_13 : decode cL_barometer 13 = .ok (.lastore, 1) := by decide +kernel
theorem dL_barometer_14 : decode cL_barometer 14 = .ok (.goto 7, 3) := by decide +kernel
theorem dL_barometer_17 : decode cL_barometer 17 = .ok (.astore 6, 2) := by decide +kernel
theorem dL_barometer_19 : decode cL_barometer 19 = .ok (.iconst 1, 1) := by decide +kernel
theorem dL_barometer_20 : decode cL_barometer 20 = .ok (.ireturn, 1) := by decide +kernel
theorem dL_barometer_21 : decode cL_barometer 21 = .ok (.iconst 0, 1) := by decide +kernel
theorem dL_barometer_22 : decode cL_barometer 22 = .ok (.ireturn, 1) := by decide +kernel
set_option maxRecDepth 20000 in
theorem ggL_certifiedShare_X4_certifiedShare : GoodIn wsL_certifiedShare wsX4_certifiedShare := goodIn_ca (goodIn_r _ [6, 7, 8, 9, 10, 11, 12, 13, 14, 15, 16, 17, 18, 19, 20, 21, 22, 23, 24, 25, 26, 27, 28, 29, 30, 31, 32, 33, 34, 35, 36, 37, 38, 39, 40, 41, 42] (by decide +kernel) (by decide +kernel)) (goodIn_sub (fun _ h => List.mem_cons_of_mem _ (List.mem_append_right _ h)) (by decide +kernel))
set_option maxRecDepth 20000 in
theorem gL_certifiedShare_X4_certifiedShare : GoodIn wsL_certifiedShare (wsV RL 131 RX4 yX4_certifiedShare wsX4_certifiedShare) := goodIn_app (goodIn_of _ (by decide +kernel)) ggL_certifiedShare_X4_certifiedShare
theorem dL_certifiedShare_0 : decode cL_certifiedShare 0 = .ok (.aload_n 1, 1) := by decide +kernel
theorem dL_certifiedShare_1 : decode cL_certifiedShare 1 = .ok (.iconst 0, 1) := by decide +kernel
theorem dL_certifiedShare_2 : decode cL_certifiedShare 2 = .ok (.aload_n 0, 1) := by decide +kernel
theorem dL_certifiedShare_3 : decode cL_certifiedShare 3 = .ok (.invokevirtual 131, 3) := by decide +kernel
theorem dL_certifiedShare_6 : decode cL_certifiedShare 6 = .ok (.f2d, 1) := by decide +kernel
theorem dL_certifiedShare_7 : decode cL_certifiedShare 7 = .ok (.dastore, 1) := by decide +kernel
theorem dL_certifiedShare_8 : decode cL_certifiedShare 8 = .ok (.goto 6, 3) := by decide +kernel
theorem dL_certifiedShare_11 : decode cL_certifiedShare 11 = .ok (.astore_n 2, 1) := by decide +kernel
theorem dL_certifiedShare_12 : decode cL_certifiedShare 12 = .ok (.iconst 1, 1) := by decide +kernel
theorem dL_certifiedShare_13 : decode cL_certifiedShare 13 = .ok (.ireturn, 1) := by decide +kernel
theorem dL_certifiedShare_14 : decode cL_certifiedShare 14 = .ok (.iconst 0, 1) := by decide +kernel
theorem dL_certifiedShare_15 : decode cL_certifiedShare 15 = .ok (.ireturn, 1) := by decide +kernel
set_option maxRecDepth 20000 in
theorem ggL_meanError_X4_meanError : GoodIn wsL_meanError wsX4_meanError := goodIn_ca (goodIn_ca (goodIn_r _ [7, 8, 9, 10, 6, 11, 12, 13, 14, 15, 16, 17, 18, 19, 20, 21, 22, 23, 24, 25, 26, 27, 28, 29, 30, 31, 32, 33, 34, 35, 36, 37, 38, 39, 40, 41, 42, 43, 44, 45, 46, 47, 48, 49, 50, 51, 52, 53] (by decide +kernel) (by decide +kernel)) (goodIn_sub (fun _ h => List.mem_cons_of_mem _ (List.mem_append_left _ (List.mem_append_right _ h))) (by decide +kernel))) (goodIn_sub (fun _ h => List.mem_cons_of_mem _ (List.mem_append_right _ h)) (by decide +kernel))
set_option maxRecDepth 20000 in
theorem gL_meanError_X4_meanError : GoodIn wsL_meanError (wsV RL 135 RX4 yX4_meanError wsX4_meanError) := goodIn_app (goodIn_of _ (by decide +kernel)) ggL_meanError_X4_meanError
theorem dL_meanError_0 : decode cL_meanError 0 = .ok (.aload_n 2, 1) := by decide +kernel
theorem dL_meanError_1 : decode cL_meanError 1 = .ok (.iconst 0, 1) := by decide +kernel
theorem dL_meanError_2 : decode cL_meanError 2 = .ok (.aload_n 0, 1) := by decide +kernel
theorem dL_meanError_3 : decode cL_meanError 3 = .ok (.iload_n 1, 1) := by decide +kernel
theorem dL_meanError_4 : decode cL_meanError 4 = .ok (.invokevirtual 135, 3) := by decide +kernel
theorem dL_meanError_7 : decode cL_meanError 7 = .ok (.dastore, 1) := by decide +kernel
theorem dL_meanError_8 : decode cL_meanError 8 = .ok (.goto 9, 3) := by decide +kernel
theorem dL_meanError_11 : decode cL_meanError 11 = .ok (.astore_n 3, 1) := by decide +kernel
theorem dL_meanError_12 : decode cL_meanError 12 = .ok (.iconst 1, 1) := by decide +kernel
theorem dL_meanError_13 : decode cL_meanError 13 = .ok (.ireturn, 1) := by decide +kernel
theorem dL_meanError_14 : decode cL_meanError 14 = .ok (.astore_n 3, 1) := by decide +kernel
theorem dL_meanError_15 : decode cL_meanError 15 = .ok (.iconst 2, 1) := by decide +kernel
theorem dL_meanError_16 : decode cL_meanError 16 = .ok (.ireturn, 1) := by decide +kernel
theorem dL_meanError_17 : decode cL_meanError 17 = .ok (.iconst 0, 1) := by decide +kernel
theorem dL_meanError_18 : decode cL_meanError 18 = .ok (.ireturn, 1) := by decide +kernel
