set_option maxRecDepth 20000 in
theorem ggX0_init_X1_init : GoodIn wsX0_init wsX1_init := goodIn_r _ [20, 21, 2, 3, 22, 23, 24, 33, 34, 35] (by decide +kernel) (by decide +kernel)
set_option maxRecDepth 20000 in
theorem gX0_init_X1_init_n11 : GoodIn wsX0_init (wsX1_init) := ggX0_init_X1_init
set_option maxRecDepth 20000 in
theorem ggX0_init_X2_init : GoodIn wsX0_init wsX2_init := goodIn_r _ [27, 28, 2, 3, 29, 30, 31, 32, 51, 52, 53, 54, 55] (by decide +kernel) (by decide +kernel)
set_option maxRecDepth 20000 in
theorem gX0_init_X2_init : GoodIn wsX0_init (wsX2_init) := ggX0_init_X2_init
theorem dX0_init_0 : decode cX0_init 0 = .ok (.aload_n 0, 1) := by decide +kernel
theorem dX0_init_1 : decode cX0_init 1 = .ok (.invokespecial 3, 3) := by decide +kernel
theorem dX0_init_4 : decode cX0_init 4 = .ok (.aload_n 0, 1) := by decide +kernel
theorem dX0_init_5 : decode cX0_init 5 = .ok (.new 9, 3) := by decide +kernel
theorem dX0_init_8 : decode cX0_init 8 = .ok (.dup, 1) := by decide +kernel
theorem dX0_init_9 : decode cX0_init 9 = .ok (.invokespecial 11, 3) := by decide +kernel
theorem dX0_init_12 : decode cX0_init 12 = .ok (.putfield 12, 3) := by decide +kernel
theorem dX0_init_15 : decode cX0_init 15 = .ok (.aload_n 0, 1) := by decide +kernel
theorem dX0_init_16 : decode cX0_init 16 = .ok (.bipush 32, 2) := by decide +kernel
theorem dX0_init_18 : decode cX0_init 18 = .ok (.putfield 18, 3) := by decide +kernel
theorem dX0_init_21 : decode cX0_init 21 = .ok (.aload_n 0, 1) := by decide +kernel
theorem dX0_init_22 : decode cX0_init 22 = .ok (.iconst (-1), 1) := by decide +kernel
theorem dX0_init_23 : decode cX0_init 23 = .ok (.putfield 22, 3) := by decide +kernel
theorem dX0_init_26 : decode cX0_init 26 = .ok (.aload_n 0, 1) := by decide +kernel
theorem dX0_init_27 : decode cX0_init 27 = .ok (.iconst (-1), 1) := by decide +kernel
theorem dX0_init_28 : decode cX0_init 28 = .ok (.putfield 26, 3) := by decide +kernel
theorem dX0_init_31 : decode cX0_init 31 = .ok (.aload_n 0, 1) := by decide +kernel
theorem dX0_init_32 : decode cX0_init 32 = .ok (.iload_n 1, 1) := by decide +kernel
theorem dX0_init_33 : decode cX0_init 33 = .ok (.putfield 29, 3) := by decide +kernel
theorem dX0_init_36 : decode cX0_init 36 = .ok (.aload_n 0, 1) := by decide +kernel
theorem dX0_init_37 : decode cX0_init 37 = .ok (.aload_n 2, 1) := by decide +kernel
theorem dX0_init_38 : decode cX0_init 38 = .ok (.putfield 32, 3) := by decide +kernel
theorem dX0_init_41 : decode cX0_init 41 = .ok (.aload_n 0, 1) := by decide +kernel
theorem dX0_init_42 : decode cX0_init 42 = .ok (.iload_n 3, 1) := by decide +kernel
theorem dX0_init_43 : decode cX0_init 43 = .ok (.putfield 36, 3) := by decide +kernel
theorem dX0_init_46 : decode cX0_init 46 = .ok (.aload_n 0, 1) := by decide +kernel
theorem dX0_init_47 : decode cX0_init 47 = .ok (.iload 4, 2) := by decide +kernel
theorem dX0_init_49 : decode cX0_init 49 = .ok (.putfield 39, 3) := by decide +kernel
theorem dX0_init_52 : decode cX0_init 52 = .ok (.aload_n 0, 1) := by decide +kernel
theorem dX0_init_53 : decode cX0_init 53 = .ok (.new 42, 3) := by decide +kernel
theorem dX0_init_56 : decode cX0_init 56 = .ok (.dup, 1) := by decide +kernel
theorem dX0_init_57 : decode cX0_init 57 = .ok (.aload_n 2, 1) := by decide +kernel
theorem dX0_init_58 : decode cX0_init 58 = .ok (.invokespecial 44, 3) := by decide +kernel
theorem dX0_init_61 : decode cX0_init 61 = .ok (.putfield 47, 3) := by decide +kernel
theorem dX0_init_64 : decode cX0_init 64 = .ok (.return_, 1) := by decide +kernel
theorem dX0_creepsInAll_0 : decode cX0_creepsInAll 0 = .ok (.aload_n 0, 1) := by decide +kernel
theorem dX0_creepsInAll_1 : decode cX0_creepsInAll 1 = .ok (.getfield 36, 3) := by decide +kernel
theorem dX0_creepsInAll_4 : decode cX0_creepsInAll 4 = .ok (.aload_n 0, 1) := by decide +kernel
theorem dX0_creepsInAll_5 : decode cX0_creepsInAll 5 = .ok (.getfield 39, 3) := by decide +kernel
theorem dX0_creepsInAll_8 : decode cX0_creepsInAll 8 = .ok (.bipush 104, 2) := by decide +kernel
theorem dX0_creepsInAll_10 : decode cX0_creepsInAll 10 = .ok (.if_icmp .ne 7, 3) := by decide +kernel
theorem dX0_creepsInAll_13 : decode cX0_creepsInAll 13 = .ok (.iconst 2, 1) := by decide +kernel
theorem dX0_creepsInAll_14 : decode cX0_creepsInAll 14 = .ok (.goto 5, 3) := by decide +kernel
theorem dX0_creepsInAll_17 : decode cX0_creepsInAll 17 = .ok (.bipush 6, 2) := by decide +kernel
theorem dX0_creepsInAll_19 : decode cX0_creepsInAll 19 = .ok (.imul, 1) := by decide +kernel
theorem dX0_creepsInAll_20 : decode cX0_creepsInAll 20 = .ok (.sipush 1000, 3) := by decide +kernel
theorem dX0_creepsInAll_23 : decode cX0_creepsInAll 23 = .ok (.idiv, 1) := by decide +kernel
theorem dX0_creepsInAll_24 : decode cX0_creepsInAll 24 = .ok (.ireturn, 1) := by decide +kernel
theorem dX0_mercuryInside_0 : decode cX0_mercuryInside 0 = .ok (.aload_n 0, 1) := by decide +kernel
theorem dX0_mercuryInside_1 : decode cX0_mercuryInside 1 = .ok (.getfield 18, 3) := by decide +kernel
theorem dX0_mercuryInside_4 : decode cX0_mercuryInside 4 = .ok (.bipush 109, 2) := by decide +kernel
theorem dX0_mercuryInside_6 : decode cX0_mercuryInside 6 = .ok (.if_icmp .ne 10, 3) := by decide +kernel
theorem dX0_mercuryInside_9 : decode cX0_mercuryInside 9 = .ok (.aload_n 0, 1) := by decide +kernel
theorem dX0_mercuryInside_10 : decode cX0_mercuryInside 10 = .ok (.getfield 68, 3) := by decide +kernel
theorem dX0_mercuryInside_13 : decode cX0_mercuryInside 13 = .ok (.goto 4, 3) := by decide +kernel
theorem dX0_mercuryInside_16 : decode cX0_mercuryInside 16 = .ok (.iconst 0, 1) := by decide +kernel
theorem dX0_mercuryInside_17 : decode cX0_mercuryInside 17 = .ok (.ireturn, 1) := by decide +kernel
set_option maxRecDepth 20000 in
theorem ggX0_isInBounds_X0_creepsInAll : GoodIn wsX0_isInBounds wsX0_creepsInAll := goodIn_r _ [7, 8, 9, 10, 11, 12, 13, 14, 15, 16, 17, 18, 19, 20, 21, 22, 23, 24] (by decide +kernel) (by decide +kernel)
set_option maxRecDepth 20000 in
theorem gX0_isInBounds_X0_creepsInAll : GoodIn wsX0_isInBounds (wsV RX0 54 RX0 yX0_creepsInAll wsX0_creepsInAll) := goodIn_app (goodIn_of _ (by decide +kernel)) ggX0_isInBounds_X0_creepsInAll
theorem dX0_isInBounds_0 : decode cX0_isInBounds 0 = .ok (.aload_n 0, 1) := by decide +kernel
theorem dX0_isInBounds_1 : decode cX0_isInBounds 1 = .ok (.getfield 51, 3) := by decide +kernel
theorem dX0_isInBounds_4 : decode cX0_isInBounds 4 = .ok (.ifCond .lt 30, 3) := by decide +kernel
theorem dX0_isInBounds_7 : decode cX0_isInBounds 7 = .ok (.aload_n 0, 1) := by decide +kernel
theorem dX0_isInBounds_8 : decode cX0_isInBounds 8 = .ok (.getfield 51, 3) := by decide +kernel
theorem dX0_isInBounds_11 : decode cX0_isInBounds 11 = .ok (.aload_n 0, 1) := by decide +kernel
theorem dX0_isInBounds_12 : decode cX0_isInBounds 12 = .ok (.invokevirtual 54, 3) := by decide +kernel
theorem dX0_isInBounds_15 : decode cX0_isInBounds 15 = .ok (.if_icmp .gt 19, 3) := by decide +kernel
theorem dX0_isInBounds_18 : decode cX0_isInBounds 18 = .ok (.aload_n 0, 1) := by decide +kernel
theorem dX0_isInBounds_19 : decode cX0_isInBounds 19 = .ok (.getfield 12, 3) := by decide +kernel
theorem dX0_isInBounds_22 : decode cX0_isInBounds 22 = .ok (.getfield 119, 3) := by decide +kernel
theorem dX0_isInBounds_25 : decode cX0_isInBounds 25 = .ok (.bipush 8, 2) := by decide +kernel
theorem dX0_isInBounds_27 : decode cX0_isInBounds 27 = .ok (.if_icmp .gt 7, 3) := by decide +kernel
theorem dX0_isInBounds_30 : decode cX0_isInBounds 30 = .ok (.iconst 1, 1) := by decide +kernel
theorem dX0_isInBounds_31 : decode cX0_isInBounds 31 = .ok (.goto 4, 3) := by decide +kernel
theorem dX0_isInBounds_34 : decode cX0_isInBounds 34 = .ok (.iconst 0, 1) := by decide +kernel
theorem dX0_isInBounds_35 : decode cX0_isInBounds 35 = .ok (.ireturn, 1) := by decide +kernel
theorem dX1_init_0 : decode cX1_init 0 = .ok (.aload_n 0, 1) := by decide +kernel
theorem dX1_init_1 : decode cX1_init 1 = .ok (.invokespecial 3, 3) := by decide +kernel
theorem dX1_init_4 : decode cX1_init 4 = .ok (.aload_n 0, 1) := by decide +kernel
theorem dX1_init_5 : decode cX1_init 5 = .ok (.bipush 8, 2) := by decide +kernel
theorem dX1_init_7 : decode cX1_init 7 = .ok (.newarray .int, 2) := by decide +kernel
theorem dX1_init_9 : decode cX1_init 9 = .ok (.putfield 9, 3) := by decide +kernel
theorem dX1_init_12 : decode cX1_init 12 = .ok (.aload_n 0, 1) := by decide +kernel
theorem dX1_init_13 : decode cX1_init 13 = .ok (.bipush 8, 2) := by decide +kernel
theorem dX1_init_15 : decode cX1_init 15 = .ok (.newarray .int, 2) := by decide +kernel
theorem dX1_init_17 : decode cX1_init 17 = .ok (.putfield 15, 3) := by decide +kernel
theorem dX1_init_20 : decode cX1_init 20 = .ok (.return_, 1) := by decide +kernel
theorem dX2_init_0 : decode cX2_init 0 = .ok (.aload_n 0, 1) := by decide +kernel
theorem dX2_init_1 : decode cX2_init 1 = .ok (.invokespecial 3, 3) := by decide +kernel
theorem dX2_init_4 : decode cX2_init 4 = .ok (.aload_n 0, 1) := by decide +kernel
theorem dX2_init_5 : decode cX2_init 5 = .ok (.iconst (-1), 1) := by decide +kernel
theorem dX2_init_6 : decode cX2_init 6 = .ok (.putfield 9, 3) := by decide +kernel
theorem dX2_init_9 : decode cX2_init 9 = .ok (.aload_n 0, 1) := by decide +kernel
theorem dX2_init_10 : decode cX2_init 10 = .ok (.iconst (-1), 1) := by decide +kernel
theorem dX2_init_11 : decode cX2_init 11 = .ok (.putfield 15, 3) := by decide +kernel
theorem dX2_init_14 : decode cX2_init 14 = .ok (.aload_n 0, 1) := by decide +kernel
theorem dX2_init_15 : decode cX2_init 15 = .ok (.bipush 32, 2) := by decide +kernel
theorem dX2_init_17 : decode cX2_init 17 = .ok (.putfield 18, 3) := by decide +kernel
theorem dX2_init_20 : decode cX2_init 20 = .ok (.aload_n 0, 1) := by decide +kernel
theorem dX2_init_21 : decode cX2_init 21 = .ok (.aload_n 1, 1) := by decide +kernel
theorem dX2_init_22 : decode cX2_init 22 = .ok (.putfield 22, 3) := by decide +kernel
theorem dX2_init_25 : decode cX2_init 25 = .ok (.return_, 1) := by decide +kernel
theorem dX3_init_0 : decode cX3_init 0 = .ok (.aload_n 0, 1) := by decide +kernel
theorem dX3_init_1 : decode cX3_init 1 = .ok (.invokespecial 3, 3) := by decide +kernel
theorem dX3_init_4 : decode cX3_init 4 = .ok (.aload_n 0, 1) := by decide +kernel
theorem dX3_init_5 : decode cX3_init 5 = .ok (.bipush 20, 2) := by decide +kernel
theorem dX3_init_7 : decode cX3_init 7 = .ok (.newarray .int, 2) := by decide +kernel
theorem dX3_init_9 : decode cX3_init 9 = .ok (.putfield 9, 3) := by decide +kernel
theorem dX3_init_12 : decode cX3_init 12 = .ok (.iconst 0, 1) := by decide +kernel
theorem dX3_init_13 : decode cX3_init 13 = .ok (.istore_n 3, 1) := by decide +kernel
theorem dX3_init_14 : decode cX3_init 14 = .ok (.iload_n 3, 1) := by decide +kernel
theorem dX3_init_15 : decode cX3_init 15 = .ok (.aload_n 0, 1) := by decide +kernel
theorem dX3_init_16 : decode cX3_init 16 = .ok (.getfield 9, 3) := by decide +kernel
theorem dX3_init_19 : decode cX3_init 19 = .ok (.arraylength, 1) := by decide +kernel
theorem dX3_init_20 : decode cX3_init 20 = .ok (.if_icmp .ge 29, 3) := by decide +kernel
theorem dX3_init_23 : decode cX3_init 23 = .ok (.aload_n 0, 1) := by decide +kernel
theorem dX3_init_24 : decode cX3_init 24 = .ok (.getfield 9, 3) := by decide +kernel
theorem dX3_init_27 : decode cX3_init 27 = .ok (.iload_n 3, 1) := by decide +kernel
theorem dX3_init_28 : decode cX3_init 28 = .ok (.iconst 1, 1) := by decide +kernel
theorem dX3_init_29 : decode cX3_init 29 = .ok (.bipush 60, 2) := by decide +kernel
theorem dX3_init_31 : decode cX3_init 31 = .ok (.iload_n 1, 1) := by decide +kernel
theorem dX3_init_32 : decode cX3_init 32 = .ok (.iload_n 3, 1) := by decide +kernel
theorem dX3_init_33 : decode cX3_init 33 = .ok (.iload_n 2, 1) := by decide +kernel
theorem dX3_init_34 : decode cX3_init 34 = .ok (.imul, 1) := by decide +kernel
theorem dX3_init_35 : decode cX3_init 35 = .ok (.iadd, 1) := by decide +kernel
theorem dX3_init_36 : decode cX3_init 36 = .ok (.invokestatic 15, 3) := by decide +kernel
theorem dX3_init_39 : decode cX3_init 39 = .ok (.invokestatic 21, 3) := by decide +kernel
theorem dX3_init_42 : decode cX3_init 42 = .ok (.iastore, 1) := by decide +kernel
theorem dX3_init_43 : decode cX3_init 43 = .ok (.iinc 3 1, 3) := by decide +kernel
theorem dX3_init_46 : decode cX3_init 46 = .ok (.goto (-32), 3) := by decide +kernel
theorem dX3_init_49 : decode cX3_init 49 = .ok (.return_, 1) := by decide +kernel
theorem dX3_boreOf_0 : decode cX3_boreOf 0 = .ok (.iload_n 1, 1) := by decide +kernel
theorem dX3_boreOf_1 : decode cX3_boreOf 1 = .ok (.ifCond .lt 21, 3) := by decide +kernel
theorem dX3_boreOf_4 : decode cX3_boreOf 4 = .ok (.iload_n 1, 1) := by decide +kernel
theorem dX3_boreOf_5 : decode cX3_boreOf 5 = .ok (.aload_n 0, 1) := by decide +kernel
theorem dX3_boreOf_6 : decode cX3_boreOf 6 = .ok (.getfield 9, 3) := by decide +kernel
theorem dX3_boreOf_9 : decode cX3_boreOf 9 = .ok (.arraylength, 1) := by decide +kernel
theorem dX3_boreOf_10 : decode cX3_boreOf 10 = .ok (.if_icmp .ge 12, 3) := by decide +kernel
theorem dX3_boreOf_13 : decode cX3_boreOf 13 = .ok (.aload_n 0, 1) := by decide +kernel
theorem dX3_boreOf_14 : decode cX3_boreOf 14 = .ok (.getfield 9, 3) := by decide +kernel
theorem dX3_boreOf_17 : decode cX3_boreOf 17 = .ok (.iload_n 1, 1) := by decide +kernel
theorem dX3_boreOf_18 : decode cX3_boreOf 18 = .ok (.iaload, 1) := by decide +kernel
theorem dX3_boreOf_19 : decode cX3_boreOf 19 = .ok (.goto 4, 3) := by decide +kernel
theorem dX3_boreOf_22 : decode cX3_boreOf 22 = .ok (.iconst 0, 1) := by decide +kernel
theorem dX3_boreOf_23 : decode cX3_boreOf 23 = .ok (.ireturn, 1) := by decide +kernel
theorem dX3_setBore_0 : decode cX3_setBore 0 = .ok (.iload_n 1, 1) := by decide +kernel
theorem dX3_setBore_1 : decode cX3_setBore 1 = .ok (.ifCond .lt 19, 3) := by decide +kernel
theorem dX3_setBore_4 : decode cX3_setBore 4 = .ok (.iload_n 1, 1) := by decide +kernel
theorem dX3_setBore_5 : decode cX3_setBore 5 = .ok (.aload_n 0, 1) := by decide +kernel
theorem dX3_setBore_6 : decode cX3_setBore 6 = .ok (.getfield 9, 3) := by decide +kernel
theorem dX3_setBore_9 : decode cX3_setBore 9 = .ok (.arraylength, 1) := by decide +kernel
theorem dX3_setBore_10 : decode cX3_setBore 10 = .ok (.if_icmp .ge 10, 3) := by decide +kernel
theorem dX3_setBore_13 : decode cX3_setBore 13 = .ok (.aload_n 0, 1) := by decide +kernel
theorem dX3_setBore_14 : decode cX3_setBore 14 = .ok (.getfield 9, 3) := by decide +kernel
theorem dX3_setBore_17 : decode cX3_setBore 17 = .ok (.iload_n 1, 1) := by decide +kernel
theorem dX3_setBore_18 : decode cX3_setBore 18 = .ok (.iload_n 2, 1) := by decide +kernel
theorem dX3_setBore_19 : decode cX3_setBore 19 = .ok (.iastore, 1) := by decide +kernel
theorem dX3_setBore_20 : decode cX3_setBore 20 = .ok (.return_, 1) := by decide +kernel
set_option maxRecDepth 20000 in
theorem ggX3_volumeUpTo_X3_stepsBelow : GoodIn wsX3_volumeUpTo wsX3_stepsBelow := goodIn_r _ [5, 6, 7, 8, 9, 10, 11, 12] (by decide +kernel) (by decide +kernel)
set_option maxRecDepth 20000 in
theorem gX3_volumeUpTo_X3_stepsBelow : GoodIn wsX3_volumeUpTo (va_wsS RX3 24 yX3_stepsBelow wsX3_stepsBelow) := goodIn_app (goodIn_of _ (by decide +kernel)) ggX3_volumeUpTo_X3_stepsBelow
theorem dX3_volumeUpTo_0 : decode cX3_volumeUpTo 0 = .ok (.iconst 0, 1) := by decide +kernel
theorem dX3_volumeUpTo_1 : decode cX3_volumeUpTo 1 = .ok (.istore_n 2, 1) := by decide +kernel
theorem dX3_volumeUpTo_2 : decode cX3_volumeUpTo 2 = .ok (.iconst 0, 1) := by decide +kernel
theorem dX3_volumeUpTo_3 : decode cX3_volumeUpTo 3 = .ok (.istore_n 3, 1) := by decide +kernel
theorem dX3_volumeUpTo_4 : decode cX3_volumeUpTo 4 = .ok (.iload_n 3, 1) := by decide +kernel
theorem dX3_volumeUpTo_5 : decode cX3_volumeUpTo 5 = .ok (.aload_n 0, 1) := by decide +kernel
theorem dX3_volumeUpTo_6 : decode cX3_volumeUpTo 6 = .ok (.getfield 9, 3) := by decide +kernel
theorem dX3_volumeUpTo_9 : decode cX3_volumeUpTo 9 = .ok (.arraylength, 1) := by decide +kernel
theorem dX3_volumeUpTo_10 : decode cX3_volumeUpTo 10 = .ok (.if_icmp .ge 24, 3) := by decide +kernel
theorem dX3_volumeUpTo_13 : decode cX3_volumeUpTo 13 = .ok (.iload_n 2, 1) := by decide +kernel
theorem dX3_volumeUpTo_14 : decode cX3_volumeUpTo 14 = .ok (.aload_n 0, 1) := by decide +kernel
theorem dX3_volumeUpTo_15 : decode cX3_volumeUpTo 15 = .ok (.getfield 9, 3) := by decide +kernel
theorem dX3_volumeUpTo_18 : decode cX3_volumeUpTo 18 = .ok (.iload_n 3, 1) := by decide +kernel
theorem dX3_volumeUpTo_19 : decode cX3_volumeUpTo 19 = .ok (.iaload, 1) := by decide +kernel
theorem dX3_volumeUpTo_20 : decode cX3_volumeUpTo 20 = .ok (.iload_n 1, 1) := by decide +kernel
theorem dX3_volumeUpTo_21 : decode cX3_volumeUpTo 21 = .ok (.iload_n 3, 1) := by decide +kernel
theorem dX3_volumeUpTo_22 : decode cX3_volumeUpTo 22 = .ok (.invokestatic 24, 3) := by decide +kernel
theorem dX3_volumeUpTo_25 : decode cX3_volumeUpTo 25 = .ok (.imul, 1) := by decide +kernel
theorem dX3_volumeUpTo_26 : decode cX3_volumeUpTo 26 = .ok (.iadd, 1) := by decide +kernel
theorem dX3_volumeUpTo_27 : decode cX3_volumeUpTo 27 = .ok (.istore_n 2, 1) := by decide +kernel
theorem dX3_volumeUpTo_28 : decode cX3_volumeUpTo 28 = .ok (.iinc 3 1, 3) := by decide +kernel
theorem dX3_volumeUpTo_31 : decode cX3_volumeUpTo 31 = .ok (.goto (-27), 3) := by decide +kernel
theorem dX3_volumeUpTo_34 : decode cX3_volumeUpTo 34 = .ok (.iload_n 2, 1) := by decide +kernel
theorem dX3_volumeUpTo_35 : decode cX3_volumeUpTo 35 = .ok (.ireturn, 1) := by decide +kernel
set_option maxRecDepth 20000 in
theorem ggX3_firstPlaceHolding_X3_volumeUpTo : GoodIn wsX3_firstPlaceHolding wsX3_volumeUpTo := goodIn_r _ [5, 6, 7, 8, 4, 9, 10, 11, 12, 13, 14, 15, 16, 17, 18] (by decide +kernel) (by decide +kernel)
set_option maxRecDepth 20000 in
theorem gX3_firstPlaceHolding_X3_volumeUpTo : GoodIn wsX3_firstPlaceHolding (wsV RX3 27 RX3 yX3_volumeUpTo wsX3_volumeUpTo) := goodIn_app (goodIn_of _ (by decide +kernel)) ggX3_firstPlaceHolding_X3_volumeUpTo
theorem dX3_firstPlaceHolding_0 : decode cX3_firstPlaceHolding 0 = .ok (.iconst 0, 1) := by decide +kernel
theorem dX3_firstPlaceHolding_1 : decode cX3_firstPlaceHolding 1 = .ok (.istore_n 2, 1) := by decide +kernel
theorem dX3_firstPlaceHolding_2 : decode cX3_firstPlaceHolding 2 = .ok (.iload_n 2, 1) := by decide +kernel
theorem dX3_firstPlaceHolding_3 : decode cX3_firstPlaceHolding 3 = .ok (.sipush 200, 3) := by decide +kernel
theorem dX3_firstPlaceHolding_6 : decode cX3_firstPlaceHolding 6 = .ok (.if_icmp .gt 20, 3) := by decide +kernel
theorem dX3_firstPlaceHolding_9 : decode cX3_firstPlaceHolding 9 = .ok (.aload_n 0, 1) := by decide +kernel
theorem dX3_firstPlaceHolding_10 : decode cX3_firstPlaceHolding 10 = .ok (.iload_n 2, 1) := by decide +kernel
theorem dX3_firstPlaceHolding_11 : decode cX3_firstPlaceHolding 11 = .ok (.invokevirtual 27, 3) := by decide +kernel
theorem dX3_firstPlaceHolding_14 : decode cX3_firstPlaceHolding 14 = .ok (.iload_n 1, 1) := by decide +kernel
theorem dX3_firstPlaceHolding_15 : decode cX3_firstPlaceHolding 15 = .ok (.if_icmp .lt 5, 3) := by decide +kernel
theorem dX3_firstPlaceHolding_18 : decode cX3_firstPlaceHolding 18 = .ok (.iload_n 2, 1) := by decide +kernel
theorem dX3_firstPlaceHolding_19 : decode cX3_firstPlaceHolding 19 = .ok (.ireturn, 1) := by decide +kernel
theorem dX3_firstPlaceHolding_20 : decode cX3_firstPlaceHolding 20 = .ok (.iinc 2 1, 3) := by decide +kernel
theorem dX3_firstPlaceHolding_23 : decode cX3_firstPlaceHolding 23 = .ok (.goto (-21), 3) := by decide +kernel
theorem dX3_firstPlaceHolding_26 : decode cX3_firstPlaceHolding 26 = .ok (.iconst (-1), 1) := by decide +kernel
theorem dX3_firstPlaceHolding_27 : decode cX3_firstPlaceHolding 27 = .ok (.ireturn, 1) := by decide +kernel
set_option maxRecDepth 20000 in
theorem ggX3_widestSection_X3_boreOf : GoodIn wsX3_widestSection wsX3_boreOf := goodIn_r _ [6, 1, 7, 8] (by decide +kernel) (by decide +kernel)
set_option maxRecDepth 20000 in
theorem gX3_widestSection_X3_boreOf : GoodIn wsX3_widestSection (wsV RX3 31 RX3 yX3_boreOf wsX3_boreOf) := goodIn_app (goodIn_of _ (by decide +kernel)) ggX3_widestSection_X3_boreOf
theorem dX3_widestSection_0 : decode cX3_widestSection 0 = .ok (.iconst 0, 1) := by decide +kernel
theorem dX3_widestSection_1 : decode cX3_widestSection 1 = .ok (.istore_n 1, 1) := by decide +kernel
theorem dX3_widestSection_2 : decode cX3_widestSection 2 = .ok (.iconst 1, 1) := by decide +kernel
theorem dX3_widestSection_3 : decode cX3_widestSection 3 = .ok (.istore_n 2, 1) := by decide +kernel
theorem dX3_widestSection_4 : decode cX3_widestSection 4 = .ok (.iload_n 2, 1) := by decide +kernel
theorem dX3_widestSection_5 : decode cX3_widestSection 5 = .ok (.aload_n 0, 1) := by decide +kernel
theorem dX3_widestSection_6 : decode cX3_widestSection 6 = .ok (.getfield 9, 3) := by decide +kernel
theorem dX3_widestSection_9 : decode cX3_widestSection 9 = .ok (.arraylength, 1) := by decide +kernel
theorem dX3_widestSection_10 : decode cX3_widestSection 10 = .ok (.if_icmp .ge 25, 3) := by decide +kernel
theorem dX3_widestSection_13 : decode cX3_widestSection 13 = .ok (.aload_n 0, 1) := by decide +kernel
theorem dX3_widestSection_14 : decode cX3_widestSection 14 = .ok (.getfield 9, 3) := by decide +kernel
theorem dX3_widestSection_17 : decode cX3_widestSection 17 = .ok (.iload_n 2, 1) := by decide +kernel
theorem dX3_widestSection_18 : decode cX3_widestSection 18 = .ok (.iaload, 1) := by decide +kernel
theorem dX3_widestSection_19 : decode cX3_widestSection 19 = .ok (.aload_n 0, 1) := by decide +kernel
theorem dX3_widestSection_20 : decode cX3_widestSection 20 = .ok (.iload_n 1, 1) := by decide +kernel
theorem dX3_widestSection_21 : decode cX3_widestSection 21 = .ok (.invokevirtual 31, 3) := by decide +kernel
theorem dX3_widestSection_24 : decode cX3_widestSection 24 = .ok (.if_icmp .le 5, 3) := by decide +kernel
theorem dX3_widestSection_27 : decode cX3_widestSection 27 = .ok (.iload_n 2, 1) := by decide +kernel
theorem dX3_widestSection_28 : decode cX3_widestSection 28 = .ok (.istore_n 1, 1) := by decide +kernel
theorem dX3_widestSection_29 : decode cX3_widestSection 29 = .ok (.iinc 2 1, 3) := by decide +kernel
theorem dX3_widestSection_32 : decode cX3_widestSection 32 = .ok (.goto (-28), 3) := by decide +kernel
theorem dX3_widestSection_35 : decode cX3_widestSection 35 = .ok (.iload_n 1, 1) := by decide +kernel
theorem dX3_widestSection_36 : decode cX3_widestSection 36 = .ok (.ireturn, 1) := by decide +kernel
set_option maxRecDepth 20000 in
theorem ggX3_clinging_X3_stepsBelow : GoodIn wsX3_clinging wsX3_stepsBelow := goodIn_r _ [9, 2, 3, 4, 5, 10, 11, 12] (by decide +kernel) (by decide +kernel)
set_option maxRecDepth 20000 in
theorem gX3_clinging_X3_stepsBelow : GoodIn wsX3_clinging (va_wsS RX3 24 yX3_stepsBelow wsX3_stepsBelow) := goodIn_app (goodIn_of _ (by decide +kernel)) ggX3_clinging_X3_stepsBelow
theorem dX3_clinging_0 : decode cX3_clinging 0 = .ok (.iconst 0, 1) := by decide +kernel
theorem dX3_clinging_1 : decode cX3_clinging 1 = .ok (.istore 4, 2) := by decide +kernel
theorem dX3_clinging_3 : decode cX3_clinging 3 = .ok (.iconst 0, 1) := by decide +kernel
theorem dX3_clinging_4 : decode cX3_clinging 4 = .ok (.istore 5, 2) := by decide +kernel
theorem dX3_clinging_6 : decode cX3_clinging 6 = .ok (.iload 5, 2) := by decide +kernel
theorem dX3_clinging_8 : decode cX3_clinging 8 = .ok (.aload_n 0, 1) := by decide +kernel
theorem dX3_clinging_9 : decode cX3_clinging 9 = .ok (.getfield 9, 3) := by decide +kernel
theorem dX3_clinging_12 : decode cX3_clinging 12 = .ok (.arraylength, 1) := by decide +kernel
theorem dX3_clinging_13 : decode cX3_clinging 13 = .ok (.if_icmp .ge 43, 3) := by decide +kernel
theorem dX3_clinging_16 : decode cX3_clinging 16 = .ok (.iload_n 2, 1) := by decide +kernel
theorem dX3_clinging_17 : decode cX3_clinging 17 = .ok (.iload 5, 2) := by decide +kernel
theorem dX3_clinging_19 : decode cX3_clinging 19 = .ok (.invokestatic 24, 3) := by decide +kernel
theorem dX3_clinging_22 : decode cX3_clinging 22 = .ok (.iload_n 1, 1) := by decide +kernel
theorem dX3_clinging_23 : decode cX3_clinging 23 = .ok (.iload 5, 2) := by decide +kernel
theorem dX3_clinging_25 : decode cX3_clinging 25 = .ok (.invokestatic 24, 3) := by decide +kernel
theorem dX3_clinging_28 : decode cX3_clinging 28 = .ok (.isub, 1) := by decide +kernel
theorem dX3_clinging_29 : decode cX3_clinging 29 = .ok (.istore 6, 2) := by decide +kernel
theorem dX3_clinging_31 : decode cX3_clinging 31 = .ok (.iload 4, 2) := by decide +kernel
theorem dX3_clinging_33 : decode cX3_clinging 33 = .ok (.iload 6, 2) := by decide +kernel
theorem dX3_clinging_35 : decode cX3_clinging 35 = .ok (.iload_n 3, 1) := by decide +kernel
theorem dX3_clinging_36 : decode cX3_clinging 36 = .ok (.aload_n 0, 1) := by decide +kernel
theorem dX3_clinging_37 : decode cX3_clinging 37 = .ok (.getfield 9, 3) := by decide +kernel
theorem dX3_clinging_40 : decode cX3_clinging 40 = .ok (.iload 5, 2) := by decide +kernel
theorem dX3_clinging_42 : decode cX3_clinging 42 = .ok (.iaload, 1) := by decide +kernel
theorem dX3_clinging_43 : decode cX3_clinging 43 = .ok (.invokestatic 15, 3) := by decide +kernel
theorem dX3_clinging_46 : decode cX3_clinging 46 = .ok (.imul, 1) := by decide +kernel
theorem dX3_clinging_47 : decode cX3_clinging 47 = .ok (.iadd, 1) := by decide +kernel
theorem dX3_clinging_48 : decode cX3_clinging 48 = .ok (.istore 4, 2) := by decide +kernel
theorem dX3_clinging_50 : decode cX3_clinging 50 = .ok (.iinc 5 1, 3) := by decide +kernel
theorem dX3_clinging_53 : decode cX3_clinging 53 = .ok (.goto (-47), 3) := by decide +kernel
theorem dX3_clinging_56 : decode cX3_clinging 56 = .ok (.iload 4, 2) := by decide +kernel
theorem dX3_clinging_58 : decode cX3_clinging 58 = .ok (.ireturn, 1) := by decide +kernel
theorem dX3_stepsBelow_0 : decode cX3_stepsBelow 0 = .ok (.iconst 0, 1) := by decide +kernel
theorem dX3_stepsBelow_1 : decode cX3_stepsBelow 1 = .ok (.bipush 10, 2) := by decide +kernel
theorem dX3_stepsBelow_3 : decode cX3_stepsBelow 3 = .ok (.iload_n 0, 1) := by decide +kernel
theorem dX3_stepsBelow_4 : decode cX3_stepsBelow 4 = .ok (.iload_n 1, 1) := by decide +kernel
theorem dX3_stepsBelow_5 : decode cX3_stepsBelow 5 = .ok (.bipush 10, 2) := by decide +kernel
theorem dX3_stepsBelow_7 : decode cX3_stepsBelow 7 = .ok (.imul, 1) := by decide +kernel
theorem dX3_stepsBelow_8 : decode cX3_stepsBelow 8 = .ok (.isub, 1) := by decide +kernel
theorem dX3_stepsBelow_9 : decode cX3_stepsBelow 9 = .ok (.invokestatic 15, 3) := by decide +kernel
theorem dX3_stepsBelow_12 : decode cX3_stepsBelow 12 = .ok (.invokestatic 21, 3) := by decide +kernel
theorem dX3_stepsBelow_15 : decode cX3_stepsBelow 15 = .ok (.ireturn, 1) := by decide +kernel
