theorem dX4_init_0 : decode cX4_init 0 = .ok (.aload_n 0, 1) := by decide +kernel
theorem dX4_init_1 : decode cX4_init 1 = .ok (.invokespecial 3, 3) := by decide +kernel
theorem dX4_init_4 : decode cX4_init 4 = .ok (.aload_n 0, 1) := by decide +kernel
theorem dX4_init_5 : decode cX4_init 5 = .ok (.bipush 8, 2) := by decide +kernel
theorem dX4_init_7 : decode cX4_init 7 = .ok (.anewarray 9, 3) := by decide +kernel
theorem dX4_init_10 : decode cX4_init 10 = .ok (.putfield 11, 3) := by decide +kernel
theorem dX4_init_13 : decode cX4_init 13 = .ok (.aload_n 0, 1) := by decide +kernel
theorem dX4_init_14 : decode cX4_init 14 = .ok (.bipush 6, 2) := by decide +kernel
theorem dX4_init_16 : decode cX4_init 16 = .ok (.anewarray 15, 3) := by decide +kernel
theorem dX4_init_19 : decode cX4_init 19 = .ok (.putfield 17, 3) := by decide +kernel
theorem dX4_init_22 : decode cX4_init 22 = .ok (.aload_n 0, 1) := by decide +kernel
theorem dX4_init_23 : decode cX4_init 23 = .ok (.sipush 200, 3) := by decide +kernel
theorem dX4_init_26 : decode cX4_init 26 = .ok (.putfield 21, 3) := by decide +kernel
theorem dX4_init_29 : decode cX4_init 29 = .ok (.return_, 1) := by decide +kernel
set_option maxRecDepth 20000 in
theorem ggX4_draw_X4_demandRange : GoodIn wsX4_draw wsX4_demandRange := goodIn_ca (goodIn_r _ [11, 12, 13] (by decide +kernel) (by decide +kernel)) (goodIn_sub (fun _ h => List.mem_cons_of_mem _ (List.mem_append_right _ h)) (by decide +kernel))
set_option maxRecDepth 20000 in
theorem gX4_draw_X4_demandRange : GoodIn wsX4_draw (va_wsS RX4 25 yX4_demandRange wsX4_demandRange) := goodIn_app (goodIn_of _ (by decide +kernel)) ggX4_draw_X4_demandRange
set_option maxRecDepth 20000 in
theorem ggX4_draw_X3_init : GoodIn wsX4_draw wsX3_init := goodIn_r _ [16, 17, 18, 19, 20, 21, 22, 23, 24, 25, 26, 27, 28, 38, 39] (by decide +kernel) (by decide +kernel)
set_option maxRecDepth 20000 in
theorem gX4_draw_X3_init : GoodIn wsX4_draw (wsX3_init) := ggX4_draw_X3_init
theorem dX4_draw_0 : decode cX4_draw 0 = .ok (.iload_n 1, 1) := by decide +kernel
theorem dX4_draw_1 : decode cX4_draw 1 = .ok (.iconst 1, 1) := by decide +kernel
theorem dX4_draw_2 : decode cX4_draw 2 = .ok (.bipush 40, 2) := by decide +kernel
theorem dX4_draw_4 : decode cX4_draw 4 = .ok (.invokestatic 25, 3) := by decide +kernel
theorem dX4_draw_7 : decode cX4_draw 7 = .ok (.iload_n 2, 1) := by decide +kernel
theorem dX4_draw_8 : decode cX4_draw 8 = .ok (.bipush (-2), 2) := by decide +kernel
theorem dX4_draw_10 : decode cX4_draw 10 = .ok (.iconst 2, 1) := by decide +kernel
theorem dX4_draw_11 : decode cX4_draw 11 = .ok (.invokestatic 25, 3) := by decide +kernel
theorem dX4_draw_14 : decode cX4_draw 14 = .ok (.aload_n 0, 1) := by decide +kernel
theorem dX4_draw_15 : decode cX4_draw 15 = .ok (.getfield 29, 3) := by decide +kernel
theorem dX4_draw_18 : decode cX4_draw 18 = .ok (.aload_n 0, 1) := by decide +kernel
theorem dX4_draw_19 : decode cX4_draw 19 = .ok (.getfield 11, 3) := by decide +kernel
theorem dX4_draw_22 : decode cX4_draw 22 = .ok (.arraylength, 1) := by decide +kernel
theorem dX4_draw_23 : decode cX4_draw 23 = .ok (.if_icmp .lt 13, 3) := by decide +kernel
theorem dX4_draw_26 : decode cX4_draw 26 = .ok (.new 32, 3) := by decide +kernel
theorem dX4_draw_29 : decode cX4_draw 29 = .ok (.dup, 1) := by decide +kernel
theorem dX4_draw_30 : decode cX4_draw 30 = .ok (.ldc 34, 2) := by decide +kernel
theorem dX4_draw_32 : decode cX4_draw 32 = .ok (.invokespecial 36, 3) := by decide +kernel
theorem dX4_draw_35 : decode cX4_draw 35 = .ok (.athrow, 1) := by decide +kernel
theorem dX4_draw_36 : decode cX4_draw 36 = .ok (.aload_n 0, 1) := by decide +kernel
theorem dX4_draw_37 : decode cX4_draw 37 = .ok (.getfield 29, 3) := by decide +kernel
theorem dX4_draw_40 : decode cX4_draw 40 = .ok (.istore_n 3, 1) := by decide +kernel
theorem dX4_draw_41 : decode cX4_draw 41 = .ok (.aload_n 0, 1) := by decide +kernel
theorem dX4_draw_42 : decode cX4_draw 42 = .ok (.getfield 11, 3) := by decide +kernel
theorem dX4_draw_45 : decode cX4_draw 45 = .ok (.iload_n 3, 1) := by decide +kernel
theorem dX4_draw_46 : decode cX4_draw 46 = .ok (.new 9, 3) := by decide +kernel
theorem dX4_draw_49 : decode cX4_draw 49 = .ok (.dup, 1) := by decide +kernel
theorem dX4_draw_50 : decode cX4_draw 50 = .ok (.iload_n 1, 1) := by decide +kernel
theorem dX4_draw_51 : decode cX4_draw 51 = .ok (.iload_n 2, 1) := by decide +kernel
theorem dX4_draw_52 : decode cX4_draw 52 = .ok (.invokespecial 39, 3) := by decide +kernel
theorem dX4_draw_55 : decode cX4_draw 55 = .ok (.aastore, 1) := by decide +kernel
theorem dX4_draw_56 : decode cX4_draw 56 = .ok (.aload_n 0, 1) := by decide +kernel
theorem dX4_draw_57 : decode cX4_draw 57 = .ok (.dup, 1) := by decide +kernel
theorem dX4_draw_58 : decode cX4_draw 58 = .ok (.getfield 29, 3) := by decide +kernel
theorem dX4_draw_61 : decode cX4_draw 61 = .ok (.iconst 1, 1) := by decide +kernel
theorem dX4_draw_62 : decode cX4_draw 62 = .ok (.iadd, 1) := by decide +kernel
theorem dX4_draw_63 : decode cX4_draw 63 = .ok (.putfield 29, 3) := by decide +kernel
theorem dX4_draw_66 : decode cX4_draw 66 = .ok (.iload_n 3, 1) := by decide +kernel
theorem dX4_draw_67 : decode cX4_draw 67 = .ok (.ireturn, 1) := by decide +kernel
set_option maxRecDepth 20000 in
theorem ggX4_section_X4_tubeNumbered : GoodIn wsX4_section wsX4_tubeNumbered := goodIn_ca (goodIn_r _ [5, 6, 7, 8, 29, 30, 31, 32, 33, 34, 35, 36, 37] (by decide +kernel) (by decide +kernel)) (goodIn_sub (fun _ h => List.mem_cons_of_mem _ (List.mem_append_left _ (List.mem_append_left _ (List.mem_append_right _ h)))) (by decide +kernel))
set_option maxRecDepth 20000 in
theorem gX4_section_X4_tubeNumbered : GoodIn wsX4_section (wsV RX4 42 RX4 yX4_tubeNumbered wsX4_tubeNumbered) := goodIn_app (goodIn_of _ (by decide +kernel)) ggX4_section_X4_tubeNumbered
set_option maxRecDepth 20000 in
theorem ggX4_section_X4_demandRange : GoodIn wsX4_section wsX4_demandRange := goodIn_ca (goodIn_r _ [11, 12, 13] (by decide +kernel) (by decide +kernel)) (goodIn_sub (fun _ h => List.mem_cons_of_mem _ (List.mem_append_left _ (List.mem_append_right _ h))) (by decide +kernel))
set_option maxRecDepth 20000 in
theorem gX4_section_X4_demandRange : GoodIn wsX4_section (va_wsS RX4 25 yX4_demandRange wsX4_demandRange) := goodIn_app (goodIn_of _ (by decide +kernel)) ggX4_section_X4_demandRange
set_option maxRecDepth 20000 in
theorem ggX4_section_X4_demandUnused : GoodIn wsX4_section wsX4_demandUnused := goodIn_ca (goodIn_r _ [16, 17, 18, 38, 39] (by decide +kernel) (by decide +kernel)) (goodIn_sub (fun _ h => List.mem_cons_of_mem _ (List.mem_append_right _ h)) (by decide +kernel))
set_option maxRecDepth 20000 in
theorem gX4_section_X4_demandUnused : GoodIn wsX4_section (va_wsS RX4 46 yX4_demandUnused wsX4_demandUnused) := goodIn_app (goodIn_of _ (by decide +kernel)) ggX4_section_X4_demandUnused
set_option maxRecDepth 20000 in
theorem ggX4_section_X3_boreOf : GoodIn wsX4_section wsX3_boreOf := goodIn_r _ [23, 24, 38, 39] (by decide +kernel) (by decide +kernel)
set_option maxRecDepth 20000 in
theorem gX4_section_X3_boreOf : GoodIn wsX4_section (wsV RX4 50 RX3 yX3_boreOf wsX3_boreOf) := goodIn_app (goodIn_of _ (by decide +kernel)) ggX4_section_X3_boreOf
set_option maxRecDepth 20000 in
theorem ggX4_section_X3_setBore : GoodIn wsX4_section wsX3_setBore := goodIn_r _ [28, 24, 38, 39] (by decide +kernel) (by decide +kernel)
set_option maxRecDepth 20000 in
theorem gX4_section_X3_setBore : GoodIn wsX4_section (wsV RX4 54 RX3 yX3_setBore wsX3_setBore) := goodIn_app (goodIn_of _ (by decide +kernel)) ggX4_section_X3_setBore
theorem dX4_section_0 : decode cX4_section 0 = .ok (.aload_n 0, 1) := by decide +kernel
theorem dX4_section_1 : decode cX4_section 1 = .ok (.iload_n 1, 1) := by decide +kernel
theorem dX4_section_2 : decode cX4_section 2 = .ok (.invokevirtual 42, 3) := by decide +kernel
theorem dX4_section_5 : decode cX4_section 5 = .ok (.astore 4, 2) := by decide +kernel
theorem dX4_section_7 : decode cX4_section 7 = .ok (.iload_n 2, 1) := by decide +kernel
theorem dX4_section_8 : decode cX4_section 8 = .ok (.iconst 0, 1) := by decide +kernel
theorem dX4_section_9 : decode cX4_section 9 = .ok (.bipush 19, 2) := by decide +kernel
theorem dX4_section_11 : decode cX4_section 11 = .ok (.invokestatic 25, 3) := by decide +kernel
theorem dX4_section_14 : decode cX4_section 14 = .ok (.iload_n 3, 1) := by decide +kernel
theorem dX4_section_15 : decode cX4_section 15 = .ok (.iconst 1, 1) := by decide +kernel
theorem dX4_section_16 : decode cX4_section 16 = .ok (.bipush 60, 2) := by decide +kernel
theorem dX4_section_18 : decode cX4_section 18 = .ok (.invokestatic 25, 3) := by decide +kernel
theorem dX4_section_21 : decode cX4_section 21 = .ok (.aload 4, 2) := by decide +kernel
theorem dX4_section_23 : decode cX4_section 23 = .ok (.invokestatic 46, 3) := by decide +kernel
theorem dX4_section_26 : decode cX4_section 26 = .ok (.aload 4, 2) := by decide +kernel
theorem dX4_section_28 : decode cX4_section 28 = .ok (.iload_n 2, 1) := by decide +kernel
theorem dX4_section_29 : decode cX4_section 29 = .ok (.invokevirtual 50, 3) := by decide +kernel
theorem dX4_section_32 : decode cX4_section 32 = .ok (.istore 5, 2) := by decide +kernel
theorem dX4_section_34 : decode cX4_section 34 = .ok (.aload 4, 2) := by decide +kernel
theorem dX4_section_36 : decode cX4_section 36 = .ok (.iload_n 2, 1) := by decide +kernel
theorem dX4_section_37 : decode cX4_section 37 = .ok (.iload_n 3, 1) := by decide +kernel
theorem dX4_section_38 : decode cX4_section 38 = .ok (.invokevirtual 54, 3) := by decide +kernel
theorem dX4_section_41 : decode cX4_section 41 = .ok (.iload 5, 2) := by decide +kernel
theorem dX4_section_43 : decode cX4_section 43 = .ok (.ireturn, 1) := by decide +kernel
set_option maxRecDepth 20000 in
theorem ggX4_bore_X4_tubeNumbered : GoodIn wsX4_bore wsX4_tubeNumbered := goodIn_ca (goodIn_r _ [5, 6, 7, 8, 20, 21, 22, 23, 24, 25, 26, 27, 28] (by decide +kernel) (by decide +kernel)) (goodIn_sub (fun _ h => List.mem_cons_of_mem _ (List.mem_append_left _ (List.mem_append_right _ h))) (by decide +kernel))
set_option maxRecDepth 20000 in
theorem gX4_bore_X4_tubeNumbered : GoodIn wsX4_bore (wsV RX4 42 RX4 yX4_tubeNumbered wsX4_tubeNumbered) := goodIn_app (goodIn_of _ (by decide +kernel)) ggX4_bore_X4_tubeNumbered
set_option maxRecDepth 20000 in
theorem ggX4_bore_X4_demandRange : GoodIn wsX4_bore wsX4_demandRange := goodIn_ca (goodIn_r _ [11, 12, 13] (by decide +kernel) (by decide +kernel)) (goodIn_sub (fun _ h => List.mem_cons_of_mem _ (List.mem_append_right _ h)) (by decide +kernel))
set_option maxRecDepth 20000 in
theorem gX4_bore_X4_demandRange : GoodIn wsX4_bore (va_wsS RX4 25 yX4_demandRange wsX4_demandRange) := goodIn_app (goodIn_of _ (by decide +kernel)) ggX4_bore_X4_demandRange
set_option maxRecDepth 20000 in
theorem ggX4_bore_X3_boreOf : GoodIn wsX4_bore wsX3_boreOf := goodIn_r _ [18, 19, 29, 30] (by decide +kernel) (by decide +kernel)
set_option maxRecDepth 20000 in
theorem gX4_bore_X3_boreOf : GoodIn wsX4_bore (wsV RX4 50 RX3 yX3_boreOf wsX3_boreOf) := goodIn_app (goodIn_of _ (by decide +kernel)) ggX4_bore_X3_boreOf
theorem dX4_bore_0 : decode cX4_bore 0 = .ok (.aload_n 0, 1) := by decide +kernel
theorem dX4_bore_1 : decode cX4_bore 1 = .ok (.iload_n 1, 1) := by decide +kernel
theorem dX4_bore_2 : decode cX4_bore 2 = .ok (.invokevirtual 42, 3) := by decide +kernel
theorem dX4_bore_5 : decode cX4_bore 5 = .ok (.astore_n 3, 1) := by decide +kernel
theorem dX4_bore_6 : decode cX4_bore 6 = .ok (.iload_n 2, 1) := by decide +kernel
theorem dX4_bore_7 : decode cX4_bore 7 = .ok (.iconst 0, 1) := by decide +kernel
theorem dX4_bore_8 : decode cX4_bore 8 = .ok (.bipush 19, 2) := by decide +kernel
theorem dX4_bore_10 : decode cX4_bore 10 = .ok (.invokestatic 25, 3) := by decide +kernel
theorem dX4_bore_13 : decode cX4_bore 13 = .ok (.aload_n 3, 1) := by decide +kernel
theorem dX4_bore_14 : decode cX4_bore 14 = .ok (.iload_n 2, 1) := by decide +kernel
theorem dX4_bore_15 : decode cX4_bore 15 = .ok (.invokevirtual 50, 3) := by decide +kernel
theorem dX4_bore_18 : decode cX4_bore 18 = .ok (.ireturn, 1) := by decide +kernel
set_option maxRecDepth 20000 in
theorem ggX4_volume_X4_tubeNumbered : GoodIn wsX4_volume wsX4_tubeNumbered := goodIn_ca (goodIn_r _ [5, 6, 7, 8, 33, 34, 35, 36, 37, 38, 39, 40, 41] (by decide +kernel) (by decide +kernel)) (goodIn_sub (fun _ h => List.mem_cons_of_mem _ (List.mem_append_left _ (List.mem_append_right _ h))) (by decide +kernel))
set_option maxRecDepth 20000 in
theorem gX4_volume_X4_tubeNumbered : GoodIn wsX4_volume (wsV RX4 42 RX4 yX4_tubeNumbered wsX4_tubeNumbered) := goodIn_app (goodIn_of _ (by decide +kernel)) ggX4_volume_X4_tubeNumbered
set_option maxRecDepth 20000 in
theorem ggX4_volume_X4_demandPlace : GoodIn wsX4_volume wsX4_demandPlace := goodIn_ca (goodIn_r _ [11, 12, 13, 4, 14, 15, 16] (by decide +kernel) (by decide +kernel)) (goodIn_sub (fun _ h => List.mem_cons_of_mem _ (List.mem_append_right _ h)) (by decide +kernel))
set_option maxRecDepth 20000 in
theorem gX4_volume_X4_demandPlace : GoodIn wsX4_volume (va_wsS RX4 57 yX4_demandPlace wsX4_demandPlace) := goodIn_app (goodIn_of _ (by decide +kernel)) ggX4_volume_X4_demandPlace
set_option maxRecDepth 20000 in
theorem ggX4_volume_X3_volumeUpTo : GoodIn wsX4_volume wsX3_volumeUpTo := goodIn_r _ [21, 22, 23, 24, 20, 25, 26, 27, 28, 29, 30, 31, 32, 42, 43] (by decide +kernel) (by decide +kernel)
set_option maxRecDepth 20000 in
theorem gX4_volume_X3_volumeUpTo : GoodIn wsX4_volume (wsV RX4 61 RX3 yX3_volumeUpTo wsX3_volumeUpTo) := goodIn_app (goodIn_of _ (by decide +kernel)) ggX4_volume_X3_volumeUpTo
theorem dX4_volume_0 : decode cX4_volume 0 = .ok (.aload_n 0, 1) := by decide +kernel
theorem dX4_volume_1 : decode cX4_volume 1 = .ok (.iload_n 1, 1) := by decide +kernel
theorem dX4_volume_2 : decode cX4_volume 2 = .ok (.invokevirtual 42, 3) := by decide +kernel
theorem dX4_volume_5 : decode cX4_volume 5 = .ok (.astore_n 3, 1) := by decide +kernel
theorem dX4_volume_6 : decode cX4_volume 6 = .ok (.iload_n 2, 1) := by decide +kernel
theorem dX4_volume_7 : decode cX4_volume 7 = .ok (.invokestatic 57, 3) := by decide +kernel
theorem dX4_volume_10 : decode cX4_volume 10 = .ok (.aload_n 3, 1) := by decide +kernel
theorem dX4_volume_11 : decode cX4_volume 11 = .ok (.iload_n 2, 1) := by decide +kernel
theorem dX4_volume_12 : decode cX4_volume 12 = .ok (.invokevirtual 61, 3) := by decide +kernel
theorem dX4_volume_15 : decode cX4_volume 15 = .ok (.ireturn, 1) := by decide +kernel
set_option maxRecDepth 20000 in
theorem ggX4_thread_X4_tubeNumbered : GoodIn wsX4_thread wsX4_tubeNumbered := goodIn_ca (goodIn_r _ [8, 9, 10, 11, 41, 42, 43, 44, 45, 46, 47, 48, 49] (by decide +kernel) (by decide +kernel)) (goodIn_sub (fun _ h => List.mem_cons_of_mem _ (List.mem_append_left _ (List.mem_append_right _ h))) (by decide +kernel))
set_option maxRecDepth 20000 in
theorem gX4_thread_X4_tubeNumbered : GoodIn wsX4_thread (wsV RX4 42 RX4 yX4_tubeNumbered wsX4_tubeNumbered) := goodIn_app (goodIn_of _ (by decide +kernel)) ggX4_thread_X4_tubeNumbered
set_option maxRecDepth 20000 in
theorem ggX4_thread_X4_demandPlace : GoodIn wsX4_thread wsX4_demandPlace := goodIn_ca (goodIn_r _ [14, 15, 16, 7, 17, 18, 19] (by decide +kernel) (by decide +kernel)) (goodIn_sub (fun _ h => List.mem_cons_of_mem _ (List.mem_append_right _ h)) (by decide +kernel))
set_option maxRecDepth 20000 in
theorem gX4_thread_X4_demandPlace : GoodIn wsX4_thread (va_wsS RX4 57 yX4_demandPlace wsX4_demandPlace) := goodIn_app (goodIn_of _ (by decide +kernel)) ggX4_thread_X4_demandPlace
set_option maxRecDepth 20000 in
theorem ggX4_thread_X4_demandRange : GoodIn wsX4_thread wsX4_demandRange := goodIn_ca (goodIn_r _ [17, 18, 19] (by decide +kernel) (by decide +kernel)) (goodIn_sub (fun _ h => List.mem_cons_of_mem _ (List.mem_append_right _ h)) (by decide +kernel))
set_option maxRecDepth 20000 in
theorem gX4_thread_X4_demandRange : GoodIn wsX4_thread (va_wsS RX4 25 yX4_demandRange wsX4_demandRange) := goodIn_app (goodIn_of _ (by decide +kernel)) ggX4_thread_X4_demandRange
set_option maxRecDepth 20000 in
theorem ggX4_thread_X3_volumeUpTo : GoodIn wsX4_thread wsX3_volumeUpTo := goodIn_r _ [24, 25, 26, 27, 23, 28, 29, 30, 31, 32, 33, 34, 35, 50, 51] (by decide +kernel) (by decide +kernel)
set_option maxRecDepth 20000 in
theorem gX4_thread_X3_volumeUpTo : GoodIn wsX4_thread (wsV RX4 61 RX3 yX3_volumeUpTo wsX3_volumeUpTo) := goodIn_app (goodIn_of _ (by decide +kernel)) ggX4_thread_X3_volumeUpTo
set_option maxRecDepth 20000 in
theorem ggX4_thread_X3_firstPlaceHolding : GoodIn wsX4_thread wsX3_firstPlaceHolding := goodIn_r _ [39, 40, 21, 22, 23, 24, 25, 26, 27, 28, 29, 30, 31, 32, 33, 34, 35, 50, 51] (by decide +kernel) (by decide +kernel)
set_option maxRecDepth 20000 in
theorem gX4_thread_X3_firstPlaceHolding : GoodIn wsX4_thread (wsV RX4 65 RX3 yX3_firstPlaceHolding wsX3_firstPlaceHolding) := goodIn_app (goodIn_of _ (by decide +kernel)) ggX4_thread_X3_firstPlaceHolding
theorem dX4_thread_0 : decode cX4_thread 0 = .ok (.aload_n 0, 1) := by decide +kernel
theorem dX4_thread_1 : decode cX4_thread 1 = .ok (.iload_n 1, 1) := by decide +kernel
theorem dX4_thread_2 : decode cX4_thread 2 = .ok (.invokevirtual 42, 3) := by decide +kernel
theorem dX4_thread_5 : decode cX4_thread 5 = .ok (.astore 4, 2) := by decide +kernel
theorem dX4_thread_7 : decode cX4_thread 7 = .ok (.iload_n 2, 1) := by decide +kernel
theorem dX4_thread_8 : decode cX4_thread 8 = .ok (.invokestatic 57, 3) := by decide +kernel
theorem dX4_thread_11 : decode cX4_thread 11 = .ok (.iload_n 3, 1) := by decide +kernel
theorem dX4_thread_12 : decode cX4_thread 12 = .ok (.iconst 1, 1) := by decide +kernel
theorem dX4_thread_13 : decode cX4_thread 13 = .ok (.ldc 64, 2) := by decide +kernel
theorem dX4_thread_15 : decode cX4_thread 15 = .ok (.invokestatic 25, 3) := by decide +kernel
theorem dX4_thread_18 : decode cX4_thread 18 = .ok (.aload 4, 2) := by decide +kernel
theorem dX4_thread_20 : decode cX4_thread 20 = .ok (.aload 4, 2) := by decide +kernel
theorem dX4_thread_22 : decode cX4_thread 22 = .ok (.iload_n 2, 1) := by decide +kernel
theorem dX4_thread_23 : decode cX4_thread 23 = .ok (.invokevirtual 61, 3) := by decide +kernel
theorem dX4_thread_26 : decode cX4_thread 26 = .ok (.iload_n 3, 1) := by decide +kernel
theorem dX4_thread_27 : decode cX4_thread 27 = .ok (.iadd, 1) := by decide +kernel
theorem dX4_thread_28 : decode cX4_thread 28 = .ok (.invokevirtual 65, 3) := by decide +kernel
theorem dX4_thread_31 : decode cX4_thread 31 = .ok (.istore 5, 2) := by decide +kernel
theorem dX4_thread_33 : decode cX4_thread 33 = .ok (.iload 5, 2) := by decide +kernel
theorem dX4_thread_35 : decode cX4_thread 35 = .ok (.iconst (-1), 1) := by decide +kernel
theorem dX4_thread_36 : decode cX4_thread 36 = .ok (.if_icmp .ne 13, 3) := by decide +kernel
theorem dX4_thread_39 : decode cX4_thread 39 = .ok (.new 68, 3) := by decide +kernel
theorem dX4_thread_42 : decode cX4_thread 42 = .ok (.dup, 1) := by decide +kernel
theorem dX4_thread_43 : decode cX4_thread 43 = .ok (.ldc 70, 2) := by decide +kernel
theorem dX4_thread_45 : decode cX4_thread 45 = .ok (.invokespecial 72, 3) := by decide +kernel
theorem dX4_thread_48 : decode cX4_thread 48 = .ok (.athrow, 1) := by decide +kernel
theorem dX4_thread_49 : decode cX4_thread 49 = .ok (.iload 5, 2) := by decide +kernel
theorem dX4_thread_51 : decode cX4_thread 51 = .ok (.ireturn, 1) := by decide +kernel
set_option maxRecDepth 20000 in
theorem ggX4_widest_X4_tubeNumbered : GoodIn wsX4_widest wsX4_tubeNumbered := goodIn_ca (goodIn_r _ [5, 6, 7, 8, 19, 20, 21, 22, 23, 24, 25, 26, 27] (by decide +kernel) (by decide +kernel)) (goodIn_sub (fun _ h => List.mem_cons_of_mem _ (List.mem_append_right _ h)) (by decide +kernel))
set_option maxRecDepth 20000 in
theorem gX4_widest_X4_tubeNumbered : GoodIn wsX4_widest (wsV RX4 42 RX4 yX4_tubeNumbered wsX4_tubeNumbered) := goodIn_app (goodIn_of _ (by decide +kernel)) ggX4_widest_X4_tubeNumbered
set_option maxRecDepth 20000 in
theorem ggX4_widest_X3_widestSection : GoodIn wsX4_widest wsX3_widestSection := goodIn_r _ [13, 14, 15, 16, 17, 12, 18, 28, 29] (by decide +kernel) (by decide +kernel)
set_option maxRecDepth 20000 in
theorem gX4_widest_X3_widestSection : GoodIn wsX4_widest (wsV RX4 73 RX3 yX3_widestSection wsX3_widestSection) := goodIn_app (goodIn_of _ (by decide +kernel)) ggX4_widest_X3_widestSection
theorem dX4_widest_0 : decode cX4_widest 0 = .ok (.aload_n 0, 1) := by decide +kernel
theorem dX4_widest_1 : decode cX4_widest 1 = .ok (.iload_n 1, 1) := by decide +kernel
theorem dX4_widest_2 : decode cX4_widest 2 = .ok (.invokevirtual 42, 3) := by decide +kernel
theorem dX4_widest_5 : decode cX4_widest 5 = .ok (.invokevirtual 73, 3) := by decide +kernel
theorem dX4_widest_8 : decode cX4_widest 8 = .ok (.ireturn, 1) := by decide +kernel
set_option maxRecDepth 20000 in
theorem ggX4_deliver_X4_tubeNumbered : GoodIn wsX4_deliver wsX4_tubeNumbered := goodIn_ca (goodIn_r _ [7, 8, 9, 10, 40, 41, 42, 43, 44, 45, 46, 47, 48] (by decide +kernel) (by decide +kernel)) (goodIn_sub (fun _ h => List.mem_cons_of_mem _ (List.mem_append_right _ h)) (by decide +kernel))
set_option maxRecDepth 20000 in
theorem gX4_deliver_X4_tubeNumbered : GoodIn wsX4_deliver (wsV RX4 42 RX4 yX4_tubeNumbered wsX4_tubeNumbered) := goodIn_app (goodIn_of _ (by decide +kernel)) ggX4_deliver_X4_tubeNumbered
set_option maxRecDepth 20000 in
theorem ggX4_deliver_X4_demandPlace : GoodIn wsX4_deliver wsX4_demandPlace := goodIn_ca (goodIn_r _ [13, 14, 15, 6, 16, 1, 2] (by decide +kernel) (by decide +kernel)) (goodIn_sub (fun _ h => List.mem_cons_of_mem _ (List.mem_append_left _ (List.mem_append_right _ h))) (by decide +kernel))
set_option maxRecDepth 20000 in
theorem gX4_deliver_X4_demandPlace : GoodIn wsX4_deliver (va_wsS RX4 57 yX4_demandPlace wsX4_demandPlace) := goodIn_app (goodIn_of _ (by decide +kernel)) ggX4_deliver_X4_demandPlace
set_option maxRecDepth 20000 in
theorem ggX4_deliver_X4_demandRange : GoodIn wsX4_deliver wsX4_demandRange := goodIn_ca (goodIn_r _ [16, 1, 2] (by decide +kernel) (by decide +kernel)) (goodIn_sub (fun _ h => List.mem_cons_of_mem _ (List.mem_append_left _ (List.mem_append_right _ h))) (by decide +kernel))
set_option maxRecDepth 20000 in
theorem gX4_deliver_X4_demandRange : GoodIn wsX4_deliver (va_wsS RX4 25 yX4_demandRange wsX4_demandRange) := goodIn_app (goodIn_of _ (by decide +kernel)) ggX4_deliver_X4_demandRange
set_option maxRecDepth 20000 in
theorem ggX4_deliver_X3_volumeUpTo : GoodIn wsX4_deliver wsX3_volumeUpTo := goodIn_r _ [21, 22, 23, 24, 20, 25, 26, 27, 28, 29, 30, 31, 32, 49, 50] (by decide +kernel) (by decide +kernel)
set_option maxRecDepth 20000 in
theorem gX4_deliver_X3_volumeUpTo : GoodIn wsX4_deliver (wsV RX4 61 RX3 yX3_volumeUpTo wsX3_volumeUpTo) := goodIn_app (goodIn_of _ (by decide +kernel)) ggX4_deliver_X3_volumeUpTo
set_option maxRecDepth 20000 in
theorem ggX4_deliver_X4_clingingToStep : GoodIn wsX4_deliver wsX4_clingingToStep := goodIn_r _ [35] (by decide +kernel) (by decide +kernel)
set_option maxRecDepth 20000 in
theorem gX4_deliver_X4_clingingToStep : GoodIn wsX4_deliver (va_wsS RX4 82 yX4_clingingToStep wsX4_clingingToStep) := goodIn_app (goodIn_of _ (by decide +kernel)) ggX4_deliver_X4_clingingToStep
set_option maxRecDepth 20000 in
theorem ggX4_deliver_X3_clinging : GoodIn wsX4_deliver wsX3_clinging := goodIn_r _ [39, 22, 26, 27, 28, 29, 23, 24, 20, 25, 30, 31, 32, 49, 50] (by decide +kernel) (by decide +kernel)
set_option maxRecDepth 20000 in
theorem gX4_deliver_X3_clinging : GoodIn wsX4_deliver (wsV RX4 85 RX3 yX3_clinging wsX3_clinging) := goodIn_app (goodIn_of _ (by decide +kernel)) ggX4_deliver_X3_clinging
theorem dX4_deliver_0 : decode cX4_deliver 0 = .ok (.aload_n 0, 1) := by decide +kernel
theorem dX4_deliver_1 : decode cX4_deliver 1 = .ok (.iload_n 1, 1) := by decide +kernel
theorem dX4_deliver_2 : decode cX4_deliver 2 = .ok (.invokevirtual 42, 3) := by decide +kernel
theorem dX4_deliver_5 : decode cX4_deliver 5 = .ok (.astore 5, 2) := by decide +kernel
theorem dX4_deliver_7 : decode cX4_deliver 7 = .ok (.iload_n 2, 1) := by decide +kernel
theorem dX4_deliver_8 : decode cX4_deliver 8 = .ok (.invokestatic 57, 3) := by decide +kernel
theorem dX4_deliver_11 : decode cX4_deliver 11 = .ok (.iload_n 3, 1) := by decide +kernel
theorem dX4_deliver_12 : decode cX4_deliver 12 = .ok (.invokestatic 57, 3) := by decide +kernel
theorem dX4_deliver_15 : decode cX4_deliver 15 = .ok (.iload 4, 2) := by decide +kernel
theorem dX4_deliver_17 : decode cX4_deliver 17 = .ok (.iconst 1, 1) := by decide +kernel
theorem dX4_deliver_18 : decode cX4_deliver 18 = .ok (.sipush 999, 3) := by decide +kernel
theorem dX4_deliver_21 : decode cX4_deliver 21 = .ok (.invokestatic 25, 3) := by decide +kernel
theorem dX4_deliver_24 : decode cX4_deliver 24 = .ok (.iload_n 3, 1) := by decide +kernel
theorem dX4_deliver_25 : decode cX4_deliver 25 = .ok (.iload_n 2, 1) := by decide +kernel
theorem dX4_deliver_26 : decode cX4_deliver 26 = .ok (.if_icmp .lt 13, 3) := by decide +kernel
theorem dX4_deliver_29 : decode cX4_deliver 29 = .ok (.new 77, 3) := by decide +kernel
theorem dX4_deliver_32 : decode cX4_deliver 32 = .ok (.dup, 1) := by decide +kernel
theorem dX4_deliver_33 : decode cX4_deliver 33 = .ok (.ldc 79, 2) := by decide +kernel
theorem dX4_deliver_35 : decode cX4_deliver 35 = .ok (.invokespecial 81, 3) := by decide +kernel
theorem dX4_deliver_38 : decode cX4_deliver 38 = .ok (.athrow, 1) := by decide +kernel
theorem dX4_deliver_39 : decode cX4_deliver 39 = .ok (.aload 5, 2) := by decide +kernel
theorem dX4_deliver_41 : decode cX4_deliver 41 = .ok (.iload_n 2, 1) := by decide +kernel
theorem dX4_deliver_42 : decode cX4_deliver 42 = .ok (.invokevirtual 61, 3) := by decide +kernel
theorem dX4_deliver_45 : decode cX4_deliver 45 = .ok (.aload 5, 2) := by decide +kernel
theorem dX4_deliver_47 : decode cX4_deliver 47 = .ok (.iload_n 3, 1) := by decide +kernel
theorem dX4_deliver_48 : decode cX4_deliver 48 = .ok (.invokevirtual 61, 3) := by decide +kernel
theorem dX4_deliver_51 : decode cX4_deliver 51 = .ok (.isub, 1) := by decide +kernel
theorem dX4_deliver_52 : decode cX4_deliver 52 = .ok (.istore 6, 2) := by decide +kernel
theorem dX4_deliver_54 : decode cX4_deliver 54 = .ok (.iload 6, 2) := by decide +kernel
theorem dX4_deliver_56 : decode cX4_deliver 56 = .ok (.aload 5, 2) := by decide +kernel
theorem dX4_deliver_58 : decode cX4_deliver 58 = .ok (.iload_n 3, 1) := by decide +kernel
theorem dX4_deliver_59 : decode cX4_deliver 59 = .ok (.iload_n 2, 1) := by decide +kernel
theorem dX4_deliver_60 : decode cX4_deliver 60 = .ok (.iload 4, 2) := by decide +kernel
theorem dX4_deliver_62 : decode cX4_deliver 62 = .ok (.invokestatic 82, 3) := by decide +kernel
theorem dX4_deliver_65 : decode cX4_deliver 65 = .ok (.invokevirtual 85, 3) := by decide +kernel
theorem dX4_deliver_68 : decode cX4_deliver 68 = .ok (.isub, 1) := by decide +kernel
theorem dX4_deliver_69 : decode cX4_deliver 69 = .ok (.ireturn, 1) := by decide +kernel
set_option maxRecDepth 20000 in
theorem ggX4_make_X4_tubeNumbered : GoodIn wsX4_make wsX4_tubeNumbered := goodIn_ca (goodIn_r _ [13, 14, 15, 16, 65, 66, 67, 68, 69, 70, 71, 72, 73] (by decide +kernel) (by decide +kernel)) (goodIn_sub (fun _ h => List.mem_cons_of_mem _ (List.mem_append_left _ (List.mem_append_left _ (List.mem_append_right _ h)))) (by decide +kernel))
set_option maxRecDepth 20000 in
theorem gX4_make_X4_tubeNumbered : GoodIn wsX4_make (wsV RX4 42 RX4 yX4_tubeNumbered wsX4_tubeNumbered) := goodIn_app (goodIn_of _ (by decide +kernel)) ggX4_make_X4_tubeNumbered
set_option maxRecDepth 20000 in
theorem ggX4_make_X4_demandRange : GoodIn wsX4_make wsX4_demandRange := goodIn_ca (goodIn_r _ [19, 20, 21] (by decide +kernel) (by decide +kernel)) (goodIn_sub (fun _ h => List.mem_cons_of_mem _ (List.mem_append_left _ (List.mem_append_right _ h))) (by decide +kernel))
set_option maxRecDepth 20000 in
theorem gX4_make_X4_demandRange : GoodIn wsX4_make (va_wsS RX4 25 yX4_demandRange wsX4_demandRange) := goodIn_app (goodIn_of _ (by decide +kernel)) ggX4_make_X4_demandRange
set_option maxRecDepth 20000 in
theorem ggX4_make_X4_demandEither : GoodIn wsX4_make wsX4_demandEither := goodIn_ca (goodIn_r _ [24, 20, 21] (by decide +kernel) (by decide +kernel)) (goodIn_sub (fun _ h => List.mem_cons_of_mem _ (List.mem_append_left _ (List.mem_append_right _ h))) (by decide +kernel))
set_option maxRecDepth 20000 in
theorem gX4_make_X4_demandEither : GoodIn wsX4_make (va_wsS RX4 90 yX4_demandEither wsX4_demandEither) := goodIn_app (goodIn_of _ (by decide +kernel)) ggX4_make_X4_demandEither
set_option maxRecDepth 20000 in
theorem ggX4_make_X4_demandUnused : GoodIn wsX4_make wsX4_demandUnused := goodIn_ca (goodIn_r _ [27, 28, 29, 74, 75] (by decide +kernel) (by decide +kernel)) (goodIn_sub (fun _ h => List.mem_cons_of_mem _ (List.mem_append_right _ h)) (by decide +kernel))
set_option maxRecDepth 20000 in
theorem gX4_make_X4_demandUnused : GoodIn wsX4_make (va_wsS RX4 46 yX4_demandUnused wsX4_demandUnused) := goodIn_app (goodIn_of _ (by decide +kernel)) ggX4_make_X4_demandUnused
set_option maxRecDepth 20000 in
theorem ggX4_make_X0_init : GoodIn wsX4_make wsX0_init := goodIn_r _ [32, 33, 34, 35, 36, 37, 38, 39, 40, 41, 42, 43, 44, 45, 46, 47, 48, 49, 50, 51, 52, 53, 54, 55, 56, 57, 58, 59, 60, 61, 62, 63, 64, 91, 92, 93, 76, 77, 78, 79, 80, 81, 82, 83, 84, 85, 86, 87, 88, 89, 90, 94, 95, 96, 97, 98] (by decide +kernel) (by decide +kernel)
set_option maxRecDepth 20000 in
theorem gX4_make_X0_init : GoodIn wsX4_make (wsX0_init) := ggX4_make_X0_init
theorem dX4_make_0 : decode cX4_make 0 = .ok (.aload_n 0, 1) := by decide +kernel
theorem dX4_make_1 : decode cX4_make 1 = .ok (.iload_n 1, 1) := by decide +kernel
theorem dX4_make_2 : decode cX4_make 2 = .ok (.invokevirtual 42, 3) := by decide +kernel
theorem dX4_make_5 : decode cX4_make 5 = .ok (.astore 4, 2) := by decide +kernel
theorem dX4_make_7 : decode cX4_make 7 = .ok (.iload_n 2, 1) := by decide +kernel
theorem dX4_make_8 : decode cX4_make 8 = .ok (.sipush 1000, 3) := by decide +kernel
theorem dX4_make_11 : decode cX4_make 11 = .ok (.ldc 89, 2) := by decide +kernel
theorem dX4_make_13 : decode cX4_make 13 = .ok (.invokestatic 25, 3) := by decide +kernel
theorem dX4_make_16 : decode cX4_make 16 = .ok (.iload_n 3, 1) := by decide +kernel
theorem dX4_make_17 : decode cX4_make 17 = .ok (.bipush 104, 2) := by decide +kernel
theorem dX4_make_19 : decode cX4_make 19 = .ok (.bipush 115, 2) := by decide +kernel
theorem dX4_make_21 : decode cX4_make 21 = .ok (.invokestatic 90, 3) := by decide +kernel
theorem dX4_make_24 : decode cX4_make 24 = .ok (.aload 4, 2) := by decide +kernel
theorem dX4_make_26 : decode cX4_make 26 = .ok (.invokestatic 46, 3) := by decide +kernel
theorem dX4_make_29 : decode cX4_make 29 = .ok (.aload_n 0, 1) := by decide +kernel
theorem dX4_make_30 : decode cX4_make 30 = .ok (.getfield 94, 3) := by decide +kernel
theorem dX4_make_33 : decode cX4_make 33 = .ok (.aload_n 0, 1) := by decide +kernel
theorem dX4_make_34 : decode cX4_make 34 = .ok (.getfield 17, 3) := by decide +kernel
theorem dX4_make_37 : decode cX4_make 37 = .ok (.arraylength, 1) := by decide +kernel
theorem dX4_make_38 : decode cX4_make 38 = .ok (.if_icmp .lt 13, 3) := by decide +kernel
theorem dX4_make_41 : decode cX4_make 41 = .ok (.new 32, 3) := by decide +kernel
theorem dX4_make_44 : decode cX4_make 44 = .ok (.dup, 1) := by decide +kernel
theorem dX4_make_45 : decode cX4_make 45 = .ok (.ldc 97, 2) := by decide +kernel
theorem dX4_make_47 : decode cX4_make 47 = .ok (.invokespecial 36, 3) := by decide +kernel
theorem dX4_make_50 : decode cX4_make 50 = .ok (.athrow, 1) := by decide +kernel
theorem dX4_make_51 : decode cX4_make 51 = .ok (.aload_n 0, 1) := by decide +kernel
theorem dX4_make_52 : decode cX4_make 52 = .ok (.getfield 94, 3) := by decide +kernel
theorem dX4_make_55 : decode cX4_make 55 = .ok (.istore 5, 2) := by decide +kernel
theorem dX4_make_57 : decode cX4_make 57 = .ok (.aload 4, 2) := by decide +kernel
theorem dX4_make_59 : decode cX4_make 59 = .ok (.iconst 1, 1) := by decide +kernel
theorem dX4_make_60 : decode cX4_make 60 = .ok (.putfield 99, 3) := by decide +kernel
theorem dX4_make_63 : decode cX4_make 63 = .ok (.aload_n 0, 1) := by decide +kernel
theorem dX4_make_64 : decode cX4_make 64 = .ok (.getfield 17, 3) := by decide +kernel
theorem dX4_make_67 : decode cX4_make 67 = .ok (.iload 5, 2) := by decide +kernel
theorem dX4_make_69 : decode cX4_make 69 = .ok (.new 15, 3) := by decide +kernel
theorem dX4_make_72 : decode cX4_make 72 = .ok (.dup, 1) := by decide +kernel
theorem dX4_make_73 : decode cX4_make 73 = .ok (.iload_n 1, 1) := by decide +kernel
theorem dX4_make_74 : decode cX4_make 74 = .ok (.aload 4, 2) := by decide +kernel
theorem dX4_make_76 : decode cX4_make 76 = .ok (.iload_n 2, 1) := by decide +kernel
theorem dX4_make_77 : decode cX4_make 77 = .ok (.iload_n 3, 1) := by decide +kernel
theorem dX4_make_78 : decode cX4_make 78 = .ok (.invokespecial 103, 3) := by decide +kernel
theorem dX4_make_81 : decode cX4_make 81 = .ok (.aastore, 1) := by decide +kernel
theorem dX4_make_82 : decode cX4_make 82 = .ok (.aload_n 0, 1) := by decide +kernel
theorem dX4_make_83 : decode cX4_make 83 = .ok (.dup, 1) := by decide +kernel
theorem dX4_make_84 : decode cX4_make 84 = .ok (.getfield 94, 3) := by decide +kernel
theorem dX4_make_87 : decode cX4_make 87 = .ok (.iconst 1, 1) := by decide +kernel
theorem dX4_make_88 : decode cX4_make 88 = .ok (.iadd, 1) := by decide +kernel
theorem dX4_make_89 : decode cX4_make 89 = .ok (.putfield 94, 3) := by decide +kernel
theorem dX4_make_92 : decode cX4_make 92 = .ok (.iload 5, 2) := by decide +kernel
theorem dX4_make_94 : decode cX4_make 94 = .ok (.ireturn, 1) := by decide +kernel
set_option maxRecDepth 20000 in
theorem ggX4_boiling_X4_demandPressure : GoodIn wsX4_boiling wsX4_demandPressure := goodIn_ca (goodIn_r _ [4, 5, 6, 3, 7, 8, 9] (by decide +kernel) (by decide +kernel)) (goodIn_sub (fun _ h => List.mem_cons_of_mem _ (List.mem_append_right _ h)) (by decide +kernel))
set_option maxRecDepth 20000 in
theorem gX4_boiling_X4_demandPressure : GoodIn wsX4_boiling (va_wsS RX4 182 yX4_demandPressure wsX4_demandPressure) := goodIn_app (goodIn_of _ (by decide +kernel)) ggX4_boiling_X4_demandPressure
set_option maxRecDepth 20000 in
theorem ggX4_boiling_X4_steamAt : GoodIn wsX4_boiling wsX4_steamAt := goodIn_r _ [12] (by decide +kernel) (by decide +kernel)
set_option maxRecDepth 20000 in
theorem gX4_boiling_X4_steamAt : GoodIn wsX4_boiling (va_wsS RX4 185 yX4_steamAt wsX4_steamAt) := goodIn_app (goodIn_of _ (by decide +kernel)) ggX4_boiling_X4_steamAt
theorem dX4_boiling_0 : decode cX4_boiling 0 = .ok (.iload_n 1, 1) := by decide +kernel
theorem dX4_boiling_1 : decode cX4_boiling 1 = .ok (.invokestatic 182, 3) := by decide +kernel
theorem dX4_boiling_4 : decode cX4_boiling 4 = .ok (.iload_n 1, 1) := by decide +kernel
theorem dX4_boiling_5 : decode cX4_boiling 5 = .ok (.invokestatic 185, 3) := by decide +kernel
theorem dX4_boiling_8 : decode cX4_boiling 8 = .ok (.ireturn, 1) := by decide +kernel
set_option maxRecDepth 20000 in
theorem ggX4_barometer_X4_demandRange : GoodIn wsX4_barometer wsX4_demandRange := goodIn_ca (goodIn_r _ [5, 6, 7] (by decide +kernel) (by decide +kernel)) (goodIn_sub (fun _ h => List.mem_cons_of_mem _ (List.mem_append_right _ h)) (by decide +kernel))
set_option maxRecDepth 20000 in
theorem gX4_barometer_X4_demandRange : GoodIn wsX4_barometer (va_wsS RX4 25 yX4_demandRange wsX4_demandRange) := goodIn_app (goodIn_of _ (by decide +kernel)) ggX4_barometer_X4_demandRange
theorem dX4_barometer_0 : decode cX4_barometer 0 = .ok (.iload_n 1, 1) := by decide +kernel
theorem dX4_barometer_1 : decode cX4_barometer 1 = .ok (.sipush 6000, 3) := by decide +kernel
theorem dX4_barometer_4 : decode cX4_barometer 4 = .ok (.sipush 8000, 3) := by decide +kernel
theorem dX4_barometer_7 : decode cX4_barometer 7 = .ok (.invokestatic 25, 3) := by decide +kernel
theorem dX4_barometer_10 : decode cX4_barometer 10 = .ok (.iload_n 2, 1) := by decide +kernel
theorem dX4_barometer_11 : decode cX4_barometer 11 = .ok (.bipush (-20), 2) := by decide +kernel
theorem dX4_barometer_13 : decode cX4_barometer 13 = .ok (.bipush 40, 2) := by decide +kernel
theorem dX4_barometer_15 : decode cX4_barometer 15 = .ok (.invokestatic 25, 3) := by decide +kernel
theorem dX4_barometer_18 : decode cX4_barometer 18 = .ok (.iload_n 3, 1) := by decide +kernel
theorem dX4_barometer_19 : decode cX4_barometer 19 = .ok (.sipush 9780, 3) := by decide +kernel
theorem dX4_barometer_22 : decode cX4_barometer 22 = .ok (.sipush 9832, 3) := by decide +kernel
theorem dX4_barometer_25 : decode cX4_barometer 25 = .ok (.invokestatic 25, 3) := by decide +kernel
theorem dX4_barometer_28 : decode cX4_barometer 28 = .ok (.iload 4, 2) := by decide +kernel
theorem dX4_barometer_30 : decode cX4_barometer 30 = .ok (.iconst 1, 1) := by decide +kernel
theorem dX4_barometer_31 : decode cX4_barometer 31 = .ok (.bipush 60, 2) := by decide +kernel
theorem dX4_barometer_33 : decode cX4_barometer 33 = .ok (.invokestatic 25, 3) := by decide +kernel
theorem dX4_barometer_36 : decode cX4_barometer 36 = .ok (.iload_n 1, 1) := by decide +kernel
theorem dX4_barometer_37 : decode cX4_barometer 37 = .ok (.iload_n 1, 1) := by decide +kernel
theorem dX4_barometer_38 : decode cX4_barometer 38 = .ok (.bipush 18, 2) := by decide +kernel
theorem dX4_barometer_40 : decode cX4_barometer 40 = .ok (.imul, 1) := by decide +kernel
theorem dX4_barometer_41 : decode cX4_barometer 41 = .ok (.iload_n 2, 1) := by decide +kernel
theorem dX4_barometer_42 : decode cX4_barometer 42 = .ok (.imul, 1) := by decide +kernel
theorem dX4_barometer_43 : decode cX4_barometer 43 = .ok (.ldc_w 265, 3) := by decide +kernel
theorem dX4_barometer_46 : decode cX4_barometer 46 = .ok (.idiv, 1) := by decide +kernel
theorem dX4_barometer_47 : decode cX4_barometer 47 = .ok (.isub, 1) := by decide +kernel
theorem dX4_barometer_48 : decode cX4_barometer 48 = .ok (.istore 5, 2) := by decide +kernel
theorem dX4_barometer_50 : decode cX4_barometer 50 = .ok (.iload 5, 2) := by decide +kernel
theorem dX4_barometer_52 : decode cX4_barometer 52 = .ok (.iload_n 3, 1) := by decide +kernel
theorem dX4_barometer_53 : decode cX4_barometer 53 = .ok (.imul, 1) := by decide +kernel
theorem dX4_barometer_54 : decode cX4_barometer 54 = .ok (.sipush 9807, 3) := by decide +kernel
theorem dX4_barometer_57 : decode cX4_barometer 57 = .ok (.idiv, 1) := by decide +kernel
theorem dX4_barometer_58 : decode cX4_barometer 58 = .ok (.bipush 60, 2) := by decide +kernel
theorem dX4_barometer_60 : decode cX4_barometer 60 = .ok (.iload 4, 2) := by decide +kernel
theorem dX4_barometer_62 : decode cX4_barometer 62 = .ok (.idiv, 1) := by decide +kernel
theorem dX4_barometer_63 : decode cX4_barometer 63 = .ok (.iadd, 1) := by decide +kernel
theorem dX4_barometer_64 : decode cX4_barometer 64 = .ok (.ireturn, 1) := by decide +kernel
set_option maxRecDepth 20000 in
theorem ggX4_isSound_X0_mercuryInside : GoodIn wsX4_isSound wsX0_mercuryInside := goodIn_r _ [9, 10, 11, 38, 39, 40, 41, 42, 43, 44, 45, 46, 47, 48, 49, 50, 51, 52] (by decide +kernel) (by decide +kernel)
set_option maxRecDepth 20000 in
theorem gX4_isSound_X0_mercuryInside : GoodIn wsX4_isSound (wsV RX4 145 RX0 yX0_mercuryInside wsX0_mercuryInside) := goodIn_app (goodIn_of _ (by decide +kernel)) ggX4_isSound_X0_mercuryInside
set_option maxRecDepth 20000 in
theorem ggX4_isSound_X0_isInBounds : GoodIn wsX4_isSound wsX0_isInBounds := goodIn_r _ [15, 16, 17, 18, 19, 20, 8, 21, 22, 23, 38, 39, 40, 41, 42, 43, 44, 45, 46, 47, 48, 49, 50, 51, 52, 53, 54, 55] (by decide +kernel) (by decide +kernel)
set_option maxRecDepth 20000 in
theorem gX4_isSound_X0_isInBounds : GoodIn wsX4_isSound (wsV RX4 279 RX0 yX0_isInBounds wsX0_isInBounds) := goodIn_app (goodIn_of _ (by decide +kernel)) ggX4_isSound_X0_isInBounds
set_option maxRecDepth 20000 in
theorem ggX4_isSound_X4_instrumentsOfTube : GoodIn wsX4_isSound wsX4_instrumentsOfTube := goodIn_r _ [28, 3, 29, 30, 31, 32, 33, 34, 35, 36, 37, 38, 39, 40, 41, 42, 43, 44, 45, 46, 47, 48, 49, 50, 51, 52] (by decide +kernel) (by decide +kernel)
set_option maxRecDepth 20000 in
theorem gX4_isSound_X4_instrumentsOfTube : GoodIn wsX4_isSound (wsV RX4 285 RX4 yX4_instrumentsOfTube wsX4_instrumentsOfTube) := goodIn_app (goodIn_of _ (by decide +kernel)) ggX4_isSound_X4_instrumentsOfTube
theorem dX4_isSound_0 : decode cX4_isSound 0 = .ok (.aload_n 0, 1) := by decide +kernel
theorem dX4_isSound_1 : decode cX4_isSound 1 = .ok (.getfield 109, 3) := by decide +kernel
theorem dX4_isSound_4 : decode cX4_isSound 4 = .ok (.aload_n 0, 1) := by decide +kernel
theorem dX4_isSound_5 : decode cX4_isSound 5 = .ok (.getfield 142, 3) := by decide +kernel
theorem dX4_isSound_8 : decode cX4_isSound 8 = .ok (.iadd, 1) := by decide +kernel
theorem dX4_isSound_9 : decode cX4_isSound 9 = .ok (.istore_n 1, 1) := by decide +kernel
theorem dX4_isSound_10 : decode cX4_isSound 10 = .ok (.aload_n 0, 1) := by decide +kernel
theorem dX4_isSound_11 : decode cX4_isSound 11 = .ok (.getfield 17, 3) := by decide +kernel
theorem dX4_isSound_14 : decode cX4_isSound 14 = .ok (.astore_n 2, 1) := by decide +kernel
theorem dX4_isSound_15 : decode cX4_isSound 15 = .ok (.aload_n 2, 1) := by decide +kernel
theorem dX4_isSound_16 : decode cX4_isSound 16 = .ok (.arraylength, 1) := by decide +kernel
theorem dX4_isSound_17 : decode cX4_isSound 17 = .ok (.istore_n 3, 1) := by decide +kernel
theorem dX4_isSound_18 : decode cX4_isSound 18 = .ok (.iconst 0, 1) := by decide +kernel
theorem dX4_isSound_19 : decode cX4_isSound 19 = .ok (.istore 4, 2) := by decide +kernel
theorem dX4_isSound_21 : decode cX4_isSound 21 = .ok (.iload 4, 2) := by decide +kernel
theorem dX4_isSound_23 : decode cX4_isSound 23 = .ok (.iload_n 3, 1) := by decide +kernel
theorem dX4_isSound_24 : decode cX4_isSound 24 = .ok (.if_icmp .ge 54, 3) := by decide +kernel
theorem dX4_isSound_27 : decode cX4_isSound 27 = .ok (.aload_n 2, 1) := by decide +kernel
theorem dX4_isSound_28 : decode cX4_isSound 28 = .ok (.iload 4, 2) := by decide +kernel
theorem dX4_isSound_30 : decode cX4_isSound 30 = .ok (.aaload, 1) := by decide +kernel
theorem dX4_isSound_31 : decode cX4_isSound 31 = .ok (.astore 5, 2) := by decide +kernel
theorem dX4_isSound_33 : decode cX4_isSound 33 = .ok (.aload 5, 2) := by decide +kernel
theorem dX4_isSound_35 : decode cX4_isSound 35 = .ok (.ifnonnull 6, 3) := by decide +kernel
theorem dX4_isSound_38 : decode cX4_isSound 38 = .ok (.goto 34, 3) := by decide +kernel
theorem dX4_isSound_41 : decode cX4_isSound 41 = .ok (.iload_n 1, 1) := by decide +kernel
theorem dX4_isSound_42 : decode cX4_isSound 42 = .ok (.aload 5, 2) := by decide +kernel
theorem dX4_isSound_44 : decode cX4_isSound 44 = .ok (.invokevirtual 145, 3) := by decide +kernel
theorem dX4_isSound_47 : decode cX4_isSound 47 = .ok (.iadd, 1) := by decide +kernel
theorem dX4_isSound_48 : decode cX4_isSound 48 = .ok (.istore_n 1, 1) := by decide +kernel
theorem dX4_isSound_49 : decode cX4_isSound 49 = .ok (.aload 5, 2) := by decide +kernel
theorem dX4_isSound_51 : decode cX4_isSound 51 = .ok (.invokevirtual 279, 3) := by decide +kernel
theorem dX4_isSound_54 : decode cX4_isSound 54 = .ok (.ifCond .eq 16, 3) := by decide +kernel
theorem dX4_isSound_57 : decode cX4_isSound 57 = .ok (.aload_n 0, 1) := by decide +kernel
theorem dX4_isSound_58 : decode cX4_isSound 58 = .ok (.aload 5, 2) := by decide +kernel
theorem dX4_isSound_60 : decode cX4_isSound 60 = .ok (.getfield 282, 3) := by decide +kernel
theorem dX4_isSound_63 : decode cX4_isSound 63 = .ok (.invokevirtual 285, 3) := by decide +kernel
theorem dX4_isSound_66 : decode cX4_isSound 66 = .ok (.iconst 1, 1) := by decide +kernel
theorem dX4_isSound_67 : decode cX4_isSound 67 = .ok (.if_icmp .le 5, 3) := by decide +kernel
theorem dX4_isSound_70 : decode cX4_isSound 70 = .ok (.iconst 0, 1) := by decide +kernel
theorem dX4_isSound_71 : decode cX4_isSound 71 = .ok (.ireturn, 1) := by decide +kernel
theorem dX4_isSound_72 : decode cX4_isSound 72 = .ok (.iinc 4 1, 3) := by decide +kernel
theorem dX4_isSound_75 : decode cX4_isSound 75 = .ok (.goto (-54), 3) := by decide +kernel
theorem dX4_isSound_78 : decode cX4_isSound 78 = .ok (.iload_n 1, 1) := by decide +kernel
theorem dX4_isSound_79 : decode cX4_isSound 79 = .ok (.aload_n 0, 1) := by decide +kernel
theorem dX4_isSound_80 : decode cX4_isSound 80 = .ok (.getfield 106, 3) := by decide +kernel
theorem dX4_isSound_83 : decode cX4_isSound 83 = .ok (.if_icmp .ne 7, 3) := by decide +kernel
theorem dX4_isSound_86 : decode cX4_isSound 86 = .ok (.iconst 1, 1) := by decide +kernel
theorem dX4_isSound_87 : decode cX4_isSound 87 = .ok (.goto 4, 3) := by decide +kernel
theorem dX4_isSound_90 : decode cX4_isSound 90 = .ok (.iconst 0, 1) := by decide +kernel
theorem dX4_isSound_91 : decode cX4_isSound 91 = .ok (.ireturn, 1) := by decide +kernel
theorem dX4_instrumentsOfTube_0 : decode cX4_instrumentsOfTube 0 = .ok (.iconst 0, 1) := by decide +kernel
theorem dX4_instrumentsOfTube_1 : decode cX4_instrumentsOfTube 1 = .ok (.istore_n 2, 1) := by decide +kernel
theorem dX4_instrumentsOfTube_2 : decode cX4_instrumentsOfTube 2 = .ok (.aload_n 0, 1) := by decide +kernel
theorem dX4_instrumentsOfTube_3 : decode cX4_instrumentsOfTube 3 = .ok (.getfield 17, 3) := by decide +kernel
theorem dX4_instrumentsOfTube_6 : decode cX4_instrumentsOfTube 6 = .ok (.astore_n 3, 1) := by decide +kernel
theorem dX4_instrumentsOfTube_7 : decode cX4_instrumentsOfTube 7 = .ok (.aload_n 3, 1) := by decide +kernel
theorem dX4_instrumentsOfTube_8 : decode cX4_instrumentsOfTube 8 = .ok (.arraylength, 1) := by decide +kernel
theorem dX4_instrumentsOfTube_9 : decode cX4_instrumentsOfTube 9 = .ok (.istore 4, 2) := by decide +kernel
theorem dX4_instrumentsOfTube_11 : decode cX4_instrumentsOfTube 11 = .ok (.iconst 0, 1) := by decide +kernel
theorem dX4_instrumentsOfTube_12 : decode cX4_instrumentsOfTube 12 = .ok (.istore 5, 2) := by decide +kernel
theorem dX4_instrumentsOfTube_14 : decode cX4_instrumentsOfTube 14 = .ok (.iload 5, 2) := by decide +kernel
theorem dX4_instrumentsOfTube_16 : decode cX4_instrumentsOfTube 16 = .ok (.iload 4, 2) := by decide +kernel
theorem dX4_instrumentsOfTube_18 : decode cX4_instrumentsOfTube 18 = .ok (.if_icmp .ge 32, 3) := by decide +kernel
theorem dX4_instrumentsOfTube_21 : decode cX4_instrumentsOfTube 21 = .ok (.aload_n 3, 1) := by decide +kernel
theorem dX4_instrumentsOfTube_22 : decode cX4_instrumentsOfTube 22 = .ok (.iload 5, 2) := by decide +kernel
theorem dX4_instrumentsOfTube_24 : decode cX4_instrumentsOfTube 24 = .ok (.aaload, 1) := by decide +kernel
theorem dX4_instrumentsOfTube_25 : decode cX4_instrumentsOfTube 25 = .ok (.astore 6, 2) := by decide +kernel
theorem dX4_instrumentsOfTube_27 : decode cX4_instrumentsOfTube 27 = .ok (.aload 6, 2) := by decide +kernel
theorem dX4_instrumentsOfTube_29 : decode cX4_instrumentsOfTube 29 = .ok (.ifnull 15, 3) := by decide +kernel
theorem dX4_instrumentsOfTube_32 : decode cX4_instrumentsOfTube 32 = .ok (.aload 6, 2) := by decide +kernel
theorem dX4_instrumentsOfTube_34 : decode cX4_instrumentsOfTube 34 = .ok (.getfield 282, 3) := by decide +kernel
theorem dX4_instrumentsOfTube_37 : decode cX4_instrumentsOfTube 37 = .ok (.iload_n 1, 1) := by decide +kernel
theorem dX4_instrumentsOfTube_38 : decode cX4_instrumentsOfTube 38 = .ok (.if_icmp .ne 6, 3) := by decide +kernel
theorem dX4_instrumentsOfTube_41 : decode cX4_instrumentsOfTube 41 = .ok (.iinc 2 1, 3) := by decide +kernel
theorem dX4_instrumentsOfTube_44 : decode cX4_instrumentsOfTube 44 = .ok (.iinc 5 1, 3) := by decide +kernel
theorem dX4_instrumentsOfTube_47 : decode cX4_instrumentsOfTube 47 = .ok (.goto (-33), 3) := by decide +kernel
theorem dX4_instrumentsOfTube_50 : decode cX4_instrumentsOfTube 50 = .ok (.iload_n 2, 1) := by decide +kernel
theorem dX4_instrumentsOfTube_51 : decode cX4_instrumentsOfTube 51 = .ok (.ireturn, 1) := by decide +kernel
theorem dX4_tubeNumbered_0 : decode cX4_tubeNumbered 0 = .ok (.iload_n 1, 1) := by decide +kernel
theorem dX4_tubeNumbered_1 : decode cX4_tubeNumbered 1 = .ok (.ifCond .lt 21, 3) := by decide +kernel
theorem dX4_tubeNumbered_4 : decode cX4_tubeNumbered 4 = .ok (.iload_n 1, 1) := by decide +kernel
theorem dX4_tubeNumbered_5 : decode cX4_tubeNumbered 5 = .ok (.aload_n 0, 1) := by decide +kernel
theorem dX4_tubeNumbered_6 : decode cX4_tubeNumbered 6 = .ok (.getfield 11, 3) := by decide +kernel
theorem dX4_tubeNumbered_9 : decode cX4_tubeNumbered 9 = .ok (.arraylength, 1) := by decide +kernel
theorem dX4_tubeNumbered_10 : decode cX4_tubeNumbered 10 = .ok (.if_icmp .ge 12, 3) := by decide +kernel
theorem dX4_tubeNumbered_13 : decode cX4_tubeNumbered 13 = .ok (.aload_n 0, 1) := by decide +kernel
theorem dX4_tubeNumbered_14 : decode cX4_tubeNumbered 14 = .ok (.getfield 11, 3) := by decide +kernel
theorem dX4_tubeNumbered_17 : decode cX4_tubeNumbered 17 = .ok (.iload_n 1, 1) := by decide +kernel
theorem dX4_tubeNumbered_18 : decode cX4_tubeNumbered 18 = .ok (.aaload, 1) := by decide +kernel
theorem dX4_tubeNumbered_19 : decode cX4_tubeNumbered 19 = .ok (.ifnonnull 14, 3) := by decide +kernel
theorem dX4_tubeNumbered_22 : decode cX4_tubeNumbered 22 = .ok (.new 288, 3) := by decide +kernel
theorem dX4_tubeNumbered_25 : decode cX4_tubeNumbered 25 = .ok (.dup, 1) := by decide +kernel
theorem dX4_tubeNumbered_26 : decode cX4_tubeNumbered 26 = .ok (.ldc_w 290, 3) := by decide +kernel
theorem dX4_tubeNumbered_29 : decode cX4_tubeNumbered 29 = .ok (.invokespecial 292, 3) := by decide +kernel
theorem dX4_tubeNumbered_32 : decode cX4_tubeNumbered 32 = .ok (.athrow, 1) := by decide +kernel
theorem dX4_tubeNumbered_33 : decode cX4_tubeNumbered 33 = .ok (.aload_n 0, 1) := by decide +kernel
theorem dX4_tubeNumbered_34 : decode cX4_tubeNumbered 34 = .ok (.getfield 11, 3) := by decide +kernel
theorem dX4_tubeNumbered_37 : decode cX4_tubeNumbered 37 = .ok (.iload_n 1, 1) := by decide +kernel
theorem dX4_tubeNumbered_38 : decode cX4_tubeNumbered 38 = .ok (.aaload, 1) := by decide +kernel
theorem dX4_tubeNumbered_39 : decode cX4_tubeNumbered 39 = .ok (.areturn, 1) := by decide +kernel
theorem dX4_demandRange_0 : decode cX4_demandRange 0 = .ok (.iload_n 0, 1) := by decide +kernel
theorem dX4_demandRange_1 : decode cX4_demandRange 1 = .ok (.iload_n 1, 1) := by decide +kernel
theorem dX4_demandRange_2 : decode cX4_demandRange 2 = .ok (.if_icmp .lt 8, 3) := by decide +kernel
theorem dX4_demandRange_5 : decode cX4_demandRange 5 = .ok (.iload_n 0, 1) := by decide +kernel
theorem dX4_demandRange_6 : decode cX4_demandRange 6 = .ok (.iload_n 2, 1) := by decide +kernel
theorem dX4_demandRange_7 : decode cX4_demandRange 7 = .ok (.if_icmp .le 14, 3) := by decide +kernel
theorem dX4_demandRange_10 : decode cX4_demandRange 10 = .ok (.new 77, 3) := by decide +kernel
theorem dX4_demandRange_13 : decode cX4_demandRange 13 = .ok (.dup, 1) := by decide +kernel
theorem dX4_demandRange_14 : decode cX4_demandRange 14 = .ok (.ldc_w 302, 3) := by decide +kernel
theorem dX4_demandRange_17 : decode cX4_demandRange 17 = .ok (.invokespecial 81, 3) := by decide +kernel
theorem dX4_demandRange_20 : decode cX4_demandRange 20 = .ok (.athrow, 1) := by decide +kernel
theorem dX4_demandRange_21 : decode cX4_demandRange 21 = .ok (.return_, 1) := by decide +kernel
set_option maxRecDepth 20000 in
theorem ggX4_demandPlace_X4_demandRange : GoodIn wsX4_demandPlace wsX4_demandRange := goodIn_ca (goodIn_r _ [4, 5, 6] (by decide +kernel) (by decide +kernel)) (goodIn_sub (fun _ h => List.mem_cons_of_mem _ (List.mem_append_right _ h)) (by decide +kernel))
set_option maxRecDepth 20000 in
theorem gX4_demandPlace_X4_demandRange : GoodIn wsX4_demandPlace (va_wsS RX4 25 yX4_demandRange wsX4_demandRange) := goodIn_app (goodIn_of _ (by decide +kernel)) ggX4_demandPlace_X4_demandRange
theorem dX4_demandPlace_0 : decode cX4_demandPlace 0 = .ok (.iload_n 0, 1) := by decide +kernel
theorem dX4_demandPlace_1 : decode cX4_demandPlace 1 = .ok (.iconst 0, 1) := by decide +kernel
theorem dX4_demandPlace_2 : decode cX4_demandPlace 2 = .ok (.sipush 200, 3) := by decide +kernel
theorem dX4_demandPlace_5 : decode cX4_demandPlace 5 = .ok (.invokestatic 25, 3) := by decide +kernel
theorem dX4_demandPlace_8 : decode cX4_demandPlace 8 = .ok (.return_, 1) := by decide +kernel
set_option maxRecDepth 20000 in
theorem ggX4_demandPressure_X4_demandRange : GoodIn wsX4_demandPressure wsX4_demandRange := goodIn_ca (goodIn_r _ [4, 5, 6] (by decide +kernel) (by decide +kernel)) (goodIn_sub (fun _ h => List.mem_cons_of_mem _ (List.mem_append_right _ h)) (by decide +kernel))
set_option maxRecDepth 20000 in
theorem gX4_demandPressure_X4_demandRange : GoodIn wsX4_demandPressure (va_wsS RX4 25 yX4_demandRange wsX4_demandRange) := goodIn_app (goodIn_of _ (by decide +kernel)) ggX4_demandPressure_X4_demandRange
theorem dX4_demandPressure_0 : decode cX4_demandPressure 0 = .ok (.iload_n 0, 1) := by decide +kernel
theorem dX4_demandPressure_1 : decode cX4_demandPressure 1 = .ok (.sipush 700, 3) := by decide +kernel
theorem dX4_demandPressure_4 : decode cX4_demandPressure 4 = .ok (.sipush 800, 3) := by decide +kernel
theorem dX4_demandPressure_7 : decode cX4_demandPressure 7 = .ok (.invokestatic 25, 3) := by decide +kernel
theorem dX4_demandPressure_10 : decode cX4_demandPressure 10 = .ok (.return_, 1) := by decide +kernel
theorem dX4_demandEither_0 : decode cX4_demandEither 0 = .ok (.iload_n 0, 1) := by decide +kernel
theorem dX4_demandEither_1 : decode cX4_demandEither 1 = .ok (.iload_n 1, 1) := by decide +kernel
theorem dX4_demandEither_2 : decode cX4_demandEither 2 = .ok (.if_icmp .eq 19, 3) := by decide +kernel
theorem dX4_demandEither_5 : decode cX4_demandEither 5 = .ok (.iload_n 0, 1) := by decide +kernel
theorem dX4_demandEither_6 : decode cX4_demandEither 6 = .ok (.iload_n 2, 1) := by decide +kernel
theorem dX4_demandEither_7 : decode cX4_demandEither 7 = .ok (.if_icmp .eq 14, 3) := by decide +kernel
theorem dX4_demandEither_10 : decode cX4_demandEither 10 = .ok (.new 77, 3) := by decide +kernel
theorem dX4_demandEither_13 : decode cX4_demandEither 13 = .ok (.dup, 1) := by decide +kernel
theorem dX4_demandEither_14 : decode cX4_demandEither 14 = .ok (.ldc_w 304, 3) := by decide +kernel
theorem dX4_demandEither_17 : decode cX4_demandEither 17 = .ok (.invokespecial 81, 3) := by decide +kernel
theorem dX4_demandEither_20 : decode cX4_demandEither 20 = .ok (.athrow, 1) := by decide +kernel
theorem dX4_demandEither_21 : decode cX4_demandEither 21 = .ok (.return_, 1) := by decide +kernel
theorem dX4_demandUnused_0 : decode cX4_demandUnused 0 = .ok (.aload_n 0, 1) := by decide +kernel
theorem dX4_demandUnused_1 : decode cX4_demandUnused 1 = .ok (.getfield 99, 3) := by decide +kernel
theorem dX4_demandUnused_4 : decode cX4_demandUnused 4 = .ok (.ifCond .eq 14, 3) := by decide +kernel
theorem dX4_demandUnused_7 : decode cX4_demandUnused 7 = .ok (.new 122, 3) := by decide +kernel
theorem dX4_demandUnused_10 : decode cX4_demandUnused 10 = .ok (.dup, 1) := by decide +kernel
theorem dX4_demandUnused_11 : decode cX4_demandUnused 11 = .ok (.ldc_w 306, 3) := by decide +kernel
theorem dX4_demandUnused_14 : decode cX4_demandUnused 14 = .ok (.invokespecial 126, 3) := by decide +kernel
theorem dX4_demandUnused_17 : decode cX4_demandUnused 17 = .ok (.athrow, 1) := by decide +kernel
theorem dX4_demandUnused_18 : decode cX4_demandUnused 18 = .ok (.return_, 1) := by decide +kernel
theorem dX4_steamAt_0 : decode cX4_steamAt 0 = .ok (.sipush 1000, 3) := by decide +kernel
theorem dX4_steamAt_3 : decode cX4_steamAt 3 = .ok (.bipush 37, 2) := by decide +kernel
theorem dX4_steamAt_5 : decode cX4_steamAt 5 = .ok (.iload_n 0, 1) := by decide +kernel
theorem dX4_steamAt_6 : decode cX4_steamAt 6 = .ok (.sipush 760, 3) := by decide +kernel
theorem dX4_steamAt_9 : decode cX4_steamAt 9 = .ok (.isub, 1) := by decide +kernel
theorem dX4_steamAt_10 : decode cX4_steamAt 10 = .ok (.imul, 1) := by decide +kernel
theorem dX4_steamAt_11 : decode cX4_steamAt 11 = .ok (.bipush 100, 2) := by decide +kernel
theorem dX4_steamAt_13 : decode cX4_steamAt 13 = .ok (.idiv, 1) := by decide +kernel
theorem dX4_steamAt_14 : decode cX4_steamAt 14 = .ok (.iadd, 1) := by decide +kernel
theorem dX4_steamAt_15 : decode cX4_steamAt 15 = .ok (.ireturn, 1) := by decide +kernel
theorem dX4_clingingToStep_0 : decode cX4_clingingToStep 0 = .ok (.iload_n 0, 1) := by decide +kernel
theorem dX4_clingingToStep_1 : decode cX4_clingingToStep 1 = .ok (.bipush 60, 2) := by decide +kernel
theorem dX4_clingingToStep_3 : decode cX4_clingingToStep 3 = .ok (.if_icmp .ge 16, 3) := by decide +kernel
theorem dX4_clingingToStep_6 : decode cX4_clingingToStep 6 = .ok (.bipush 60, 2) := by decide +kernel
theorem dX4_clingingToStep_8 : decode cX4_clingingToStep 8 = .ok (.iload_n 0, 1) := by decide +kernel
theorem dX4_clingingToStep_9 : decode cX4_clingingToStep 9 = .ok (.isub, 1) := by decide +kernel
theorem dX4_clingingToStep_10 : decode cX4_clingingToStep 10 = .ok (.bipush 9, 2) := by decide +kernel
theorem dX4_clingingToStep_12 : decode cX4_clingingToStep 12 = .ok (.iadd, 1) := by decide +kernel
theorem dX4_clingingToStep_13 : decode cX4_clingingToStep 13 = .ok (.bipush 10, 2) := by decide +kernel
theorem dX4_clingingToStep_15 : decode cX4_clingingToStep 15 = .ok (.idiv, 1) := by decide +kernel
theorem dX4_clingingToStep_16 : decode cX4_clingingToStep 16 = .ok (.goto 4, 3) := by decide +kernel
theorem dX4_clingingToStep_19 : decode cX4_clingingToStep 19 = .ok (.iconst 0, 1) := by decide +kernel
theorem dX4_clingingToStep_20 : decode cX4_clingingToStep 20 = .ok (.ireturn, 1) := by decide +kernel
theorem dJ9_max_7cf53_0 : decode cJ9_max_7cf53 0 = .ok (.iload_n 0, 1) := by decide +kernel
theorem dJ9_max_7cf53_1 : decode cJ9_max_7cf53 1 = .ok (.iload_n 1, 1) := by decide +kernel
theorem dJ9_max_7cf53_2 : decode cJ9_max_7cf53 2 = .ok (.if_icmp .lt 7, 3) := by decide +kernel
theorem dJ9_max_7cf53_5 : decode cJ9_max_7cf53 5 = .ok (.iload_n 0, 1) := by decide +kernel
theorem dJ9_max_7cf53_6 : decode cJ9_max_7cf53 6 = .ok (.goto 4, 3) := by decide +kernel
theorem dJ9_max_7cf53_9 : decode cJ9_max_7cf53 9 = .ok (.iload_n 1, 1) := by decide +kernel
theorem dJ9_max_7cf53_10 : decode cJ9_max_7cf53 10 = .ok (.ireturn, 1) := by decide +kernel
theorem dJ9_min_7cf53_0 : decode cJ9_min_7cf53 0 = .ok (.iload_n 0, 1) := by decide +kernel
theorem dJ9_min_7cf53_1 : decode cJ9_min_7cf53 1 = .ok (.iload_n 1, 1) := by decide +kernel
theorem dJ9_min_7cf53_2 : decode cJ9_min_7cf53 2 = .ok (.if_icmp .gt 7, 3) := by decide +kernel
theorem dJ9_min_7cf53_5 : decode cJ9_min_7cf53 5 = .ok (.iload_n 0, 1) := by decide +kernel
theorem dJ9_min_7cf53_6 : decode cJ9_min_7cf53 6 = .ok (.goto 4, 3) := by decide +kernel
theorem dJ9_min_7cf53_9 : decode cJ9_min_7cf53 9 = .ok (.iload_n 1, 1) := by decide +kernel
theorem dJ9_min_7cf53_10 : decode cJ9_min_7cf53 10 = .ok (.ireturn, 1) := by decide +kernel
