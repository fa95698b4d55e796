set_option maxRecDepth 20000 in
theorem ggX0_init_X1_init : GoodIn wsX0_init wsX1_init := goodIn_r _ [20, 21, 2, 3, 22, 23, 24, 33, 34, 35] (by decide +kernel) (by decide +kernel)
set_option maxRecDepth 20000 in
theorem gX0_init_X1_init_n11 : GoodIn wsX0_init (wsX1_init) := ggX0_init_X1_init
set_option maxRecDepth 20000 in
theorem ggX0_init_X2_init : GoodIn wsX0_init wsX2_init := goodIn_r _ [27, 28, 2, 3, 29, 30, 31, 32, 51, 52, 53, 54, 55] (by decide +kernel) (by decide +kernel)
set_option maxRecDepth 20000 in
theorem gX0_init_X2_init : GoodIn wsX0_init (wsX2_init) := ggX0_init_X2_init
theorem dX0_init_0 : decode cX0_init 0 = .ok (.aload_n 0, 1) := by decide +kernel
theorem dX0_init_1 : decode cX0_init 1 = .ok (.invokespecial 3, 3) := by decide +kernel
theorem dX0_init_4 : decode cX0_init 4 = .ok (.aload_n 0, 1) := by decide +kernel
theorem dX0_init_5 : decode cX0_init 5 = .ok (.new 9, 3) := by decide +kernel
theorem dX0_init_8 : decode cX0_init 8 = .ok (.dup, 1) := by decide +kernel
theorem dX0_init_9 : decode cX0_init 9 = .ok (.invokespecial 11, 3) := by decide +kernel
theorem dX0_init_12 : decode cX0_init 12 = .ok (.putfield 12, 3) := by decide +kernel
theorem dX0_init_15 : decode cX0_init 15 = .ok (.aload_n 0, 1) := by decide +kernel
theorem dX0_init_16 : decode cX0_init 16 = .ok (.bipush 32, 2) := by decide +kernel
theorem dX0_init_18 : decode cX0_init 18 = .ok (.putfield 18, 3) := by decide +kernel
theorem dX0_init_21 : decode cX0_init 21 = .ok (.aload_n 0, 1) := by decide +kernel
theorem dX0_init_22 : decode cX0_init 22 = .ok (.iconst (-1), 1) := by decide +kernel
theorem dX0_init_23 : decode cX0_init 23 = .ok (.putfield 22, 3) := by decide +kernel
theorem dX0_init_26 : decode cX0_init 26 = .ok (.aload_n 0, 1) := by decide +kernel
theorem dX0_init_27 : decode cX0_init 27 = .ok (.iconst (-1), 1) := by decide +kernel
theorem dX0_init_28 : decode cX0_init 28 = .ok (.putfield 26, 3) := by decide +kernel
theorem dX0_init_31 : decode cX0_init 31 = .ok (.aload_n 0, 1) := by decide +kernel
theorem dX0_init_32 : decode cX0_init 32 = .ok (.iload_n 1, 1) := by decide +kernel
theorem dX0_init_33 : decode cX0_init 33 = .ok (.putfield 29, 3) := by decide +kernel
theorem dX0_init_36 : decode cX0_init 36 = .ok (.aload_n 0, 1) := by decide +kernel
theorem dX0_init_37 : decode cX0_init 37 = .ok (.aload_n 2, 1) := by decide +kernel
theorem dX0_init_38 : decode cX0_init 38 = .ok (.putfield 32, 3) := by decide +kernel
theorem dX0_init_41 : decode cX0_init 41 = .ok (.aload_n 0, 1) := by decide +kernel
theorem dX0_init_42 : decode cX0_init 42 = .ok (.iload_n 3, 1) := by decide +kernel
theorem dX0_init_43 : decode cX0_init 43 = .ok (.putfield 36, 3) := by decide +kernel
theorem dX0_init_46 : decode cX0_init 46 = .ok (.aload_n 0, 1) := by decide +kernel
theorem dX0_init_47 : decode cX0_init 47 = .ok (.iload 4, 2) := by decide +kernel
theorem dX0_init_49 : decode cX0_init 49 = .ok (.putfield 39, 3) := by decide +kernel
theorem dX0_init_52 : decode cX0_init 52 = .ok (.aload_n 0, 1) := by decide +kernel
theorem dX0_init_53 : decode cX0_init 53 = .ok (.new 42, 3) := by decide +kernel
theorem dX0_init_56 : decode cX0_init 56 = .ok (.dup, 1) := by decide +kernel
theorem dX0_init_57 : decode cX0_init 57 = .ok (.aload_n 2, 1) := by decide +kernel
theorem dX0_init_58 : decode cX0_init 58 = .ok (.invokespecial 44, 3) := by decide +kernel
theorem dX0_init_61 : decode cX0_init 61 = .ok (.putfield 47, 3) := by decide +kernel
theorem dX0_init_64 : decode cX0_init 64 = .ok (.return_, 1) := by decide +kernel
theorem dX0_creepsInAll_0 : decode cX0_creepsInAll 0 = .ok (.aload_n 0, 1) := by decide +kernel
theorem dX0_creepsInAll_1 : decode cX0_creepsInAll 1 = .ok (.getfield 36, 3) := by decide +kernel
theorem dX0_creepsInAll_4 : decode cX0_creepsInAll 4 = .ok (.aload_n 0, 1) := by decide +kernel
theorem dX0_creepsInAll_5 : decode cX0_creepsInAll 5 = .ok (.getfield 39, 3) := by decide +kernel
theorem dX0_creepsInAll_8 : decode cX0_creepsInAll 8 = .ok (.bipush 104, 2) := by decide +kernel
theorem dX0_creepsInAll_10 : decode cX0_creepsInAll 10 = .ok (.if_icmp .ne 7, 3) := by decide +kernel
theorem dX0_creepsInAll_13 : decode cX0_creepsInAll 13 = .ok (.iconst 2, 1) := by decide +kernel
theorem dX0_creepsInAll_14 : decode cX0_creepsInAll 14 = .ok (.goto 5, 3) := by decide +kernel
theorem dX0_creepsInAll_17 : decode cX0_creepsInAll 17 = .ok (.bipush 6, 2) := by decide +kernel
theorem dX0_creepsInAll_19 : decode cX0_creepsInAll 19 = .ok (.imul, 1) := by decide +kernel
theorem dX0_creepsInAll_20 : decode cX0_creepsInAll 20 = .ok (.sipush 1000, 3) := by decide +kernel
theorem dX0_creepsInAll_23 : decode cX0_creepsInAll 23 = .ok (.idiv, 1) := by decide +kernel
theorem dX0_creepsInAll_24 : decode cX0_creepsInAll 24 = .ok (.ireturn, 1) := by decide +kernel
set_option maxRecDepth 20000 in
theorem ggX0_creep_X0_creepsInAll : GoodIn wsX0_creep wsX0_creepsInAll := goodIn_r _ [6, 7, 8, 9, 10, 11, 12, 13, 14, 15, 16, 17, 18, 19, 20, 21, 22, 23] (by decide +kernel) (by decide +kernel)
set_option maxRecDepth 20000 in
theorem gX0_creep_X0_creepsInAll : GoodIn wsX0_creep (wsV RX0 54 RX0 yX0_creepsInAll wsX0_creepsInAll) := goodIn_app (goodIn_of _ (by decide +kernel)) ggX0_creep_X0_creepsInAll
theorem dX0_creep_0 : decode cX0_creep 0 = .ok (.iconst 0, 1) := by decide +kernel
theorem dX0_creep_1 : decode cX0_creep 1 = .ok (.istore_n 2, 1) := by decide +kernel
theorem dX0_creep_2 : decode cX0_creep 2 = .ok (.iload_n 2, 1) := by decide +kernel
theorem dX0_creep_3 : decode cX0_creep 3 = .ok (.iload_n 1, 1) := by decide +kernel
theorem dX0_creep_4 : decode cX0_creep 4 = .ok (.if_icmp .ge 33, 3) := by decide +kernel
theorem dX0_creep_7 : decode cX0_creep 7 = .ok (.aload_n 0, 1) := by decide +kernel
theorem dX0_creep_8 : decode cX0_creep 8 = .ok (.dup, 1) := by decide +kernel
theorem dX0_creep_9 : decode cX0_creep 9 = .ok (.getfield 51, 3) := by decide +kernel
theorem dX0_creep_12 : decode cX0_creep 12 = .ok (.aload_n 0, 1) := by decide +kernel
theorem dX0_creep_13 : decode cX0_creep 13 = .ok (.invokevirtual 54, 3) := by decide +kernel
theorem dX0_creep_16 : decode cX0_creep 16 = .ok (.aload_n 0, 1) := by decide +kernel
theorem dX0_creep_17 : decode cX0_creep 17 = .ok (.getfield 51, 3) := by decide +kernel
theorem dX0_creep_20 : decode cX0_creep 20 = .ok (.isub, 1) := by decide +kernel
theorem dX0_creep_21 : decode cX0_creep 21 = .ok (.bipush 19, 2) := by decide +kernel
theorem dX0_creep_23 : decode cX0_creep 23 = .ok (.iadd, 1) := by decide +kernel
theorem dX0_creep_24 : decode cX0_creep 24 = .ok (.bipush 20, 2) := by decide +kernel
theorem dX0_creep_26 : decode cX0_creep 26 = .ok (.idiv, 1) := by decide +kernel
theorem dX0_creep_27 : decode cX0_creep 27 = .ok (.iadd, 1) := by decide +kernel
theorem dX0_creep_28 : decode cX0_creep 28 = .ok (.putfield 51, 3) := by decide +kernel
theorem dX0_creep_31 : decode cX0_creep 31 = .ok (.iinc 2 1, 3) := by decide +kernel
theorem dX0_creep_34 : decode cX0_creep 34 = .ok (.goto (-32), 3) := by decide +kernel
theorem dX0_creep_37 : decode cX0_creep 37 = .ok (.return_, 1) := by decide +kernel
set_option maxRecDepth 20000 in
theorem ggX0_roomUpTo_X3_volumeUpTo : GoodIn wsX0_roomUpTo wsX3_volumeUpTo := goodIn_r _ [8, 9, 10, 11, 7, 12, 13, 14, 15, 16, 17, 18, 19, 35, 36] (by decide +kernel) (by decide +kernel)
set_option maxRecDepth 20000 in
theorem gX0_roomUpTo_X3_volumeUpTo : GoodIn wsX0_roomUpTo (wsV RX0 58 RX3 yX3_volumeUpTo wsX3_volumeUpTo) := goodIn_app (goodIn_of _ (by decide +kernel)) ggX0_roomUpTo_X3_volumeUpTo
theorem dX0_roomUpTo_0 : decode cX0_roomUpTo 0 = .ok (.aload_n 0, 1) := by decide +kernel
theorem dX0_roomUpTo_1 : decode cX0_roomUpTo 1 = .ok (.getfield 36, 3) := by decide +kernel
theorem dX0_roomUpTo_4 : decode cX0_roomUpTo 4 = .ok (.aload_n 0, 1) := by decide +kernel
theorem dX0_roomUpTo_5 : decode cX0_roomUpTo 5 = .ok (.getfield 51, 3) := by decide +kernel
theorem dX0_roomUpTo_8 : decode cX0_roomUpTo 8 = .ok (.isub, 1) := by decide +kernel
theorem dX0_roomUpTo_9 : decode cX0_roomUpTo 9 = .ok (.aload_n 0, 1) := by decide +kernel
theorem dX0_roomUpTo_10 : decode cX0_roomUpTo 10 = .ok (.getfield 32, 3) := by decide +kernel
theorem dX0_roomUpTo_13 : decode cX0_roomUpTo 13 = .ok (.iload_n 1, 1) := by decide +kernel
theorem dX0_roomUpTo_14 : decode cX0_roomUpTo 14 = .ok (.invokevirtual 58, 3) := by decide +kernel
theorem dX0_roomUpTo_17 : decode cX0_roomUpTo 17 = .ok (.iadd, 1) := by decide +kernel
theorem dX0_roomUpTo_18 : decode cX0_roomUpTo 18 = .ok (.ireturn, 1) := by decide +kernel
theorem dX0_fillWith_0 : decode cX0_fillWith 0 = .ok (.aload_n 0, 1) := by decide +kernel
theorem dX0_fillWith_1 : decode cX0_fillWith 1 = .ok (.iconst 1, 1) := by decide +kernel
theorem dX0_fillWith_2 : decode cX0_fillWith 2 = .ok (.putfield 64, 3) := by decide +kernel
theorem dX0_fillWith_5 : decode cX0_fillWith 5 = .ok (.aload_n 0, 1) := by decide +kernel
theorem dX0_fillWith_6 : decode cX0_fillWith 6 = .ok (.iload_n 1, 1) := by decide +kernel
theorem dX0_fillWith_7 : decode cX0_fillWith 7 = .ok (.putfield 18, 3) := by decide +kernel
theorem dX0_fillWith_10 : decode cX0_fillWith 10 = .ok (.aload_n 0, 1) := by decide +kernel
theorem dX0_fillWith_11 : decode cX0_fillWith 11 = .ok (.iload_n 2, 1) := by decide +kernel
theorem dX0_fillWith_12 : decode cX0_fillWith 12 = .ok (.putfield 68, 3) := by decide +kernel
theorem dX0_fillWith_15 : decode cX0_fillWith 15 = .ok (.return_, 1) := by decide +kernel
theorem dX0_breakUp_0 : decode cX0_breakUp 0 = .ok (.aload_n 0, 1) := by decide +kernel
theorem dX0_breakUp_1 : decode cX0_breakUp 1 = .ok (.iconst 1, 1) := by decide +kernel
theorem dX0_breakUp_2 : decode cX0_breakUp 2 = .ok (.putfield 71, 3) := by decide +kernel
theorem dX0_breakUp_5 : decode cX0_breakUp 5 = .ok (.aload_n 0, 1) := by decide +kernel
theorem dX0_breakUp_6 : decode cX0_breakUp 6 = .ok (.iconst 0, 1) := by decide +kernel
theorem dX0_breakUp_7 : decode cX0_breakUp 7 = .ok (.putfield 64, 3) := by decide +kernel
theorem dX0_breakUp_10 : decode cX0_breakUp 10 = .ok (.aload_n 0, 1) := by decide +kernel
theorem dX0_breakUp_11 : decode cX0_breakUp 11 = .ok (.iconst 0, 1) := by decide +kernel
theorem dX0_breakUp_12 : decode cX0_breakUp 12 = .ok (.putfield 68, 3) := by decide +kernel
theorem dX0_breakUp_15 : decode cX0_breakUp 15 = .ok (.return_, 1) := by decide +kernel
theorem dX0_mercuryInside_0 : decode cX0_mercuryInside 0 = .ok (.aload_n 0, 1) := by decide +kernel
theorem dX0_mercuryInside_1 : decode cX0_mercuryInside 1 = .ok (.getfield 18, 3) := by decide +kernel
theorem dX0_mercuryInside_4 : decode cX0_mercuryInside 4 = .ok (.bipush 109, 2) := by decide +kernel
theorem dX0_mercuryInside_6 : decode cX0_mercuryInside 6 = .ok (.if_icmp .ne 10, 3) := by decide +kernel
theorem dX0_mercuryInside_9 : decode cX0_mercuryInside 9 = .ok (.aload_n 0, 1) := by decide +kernel
theorem dX0_mercuryInside_10 : decode cX0_mercuryInside 10 = .ok (.getfield 68, 3) := by decide +kernel
theorem dX0_mercuryInside_13 : decode cX0_mercuryInside 13 = .ok (.goto 4, 3) := by decide +kernel
theorem dX0_mercuryInside_16 : decode cX0_mercuryInside 16 = .ok (.iconst 0, 1) := by decide +kernel
theorem dX0_mercuryInside_17 : decode cX0_mercuryInside 17 = .ok (.ireturn, 1) := by decide +kernel
set_option maxRecDepth 20000 in
theorem ggX0_levelAt_X0_restInTube : GoodIn wsX0_levelAt wsX0_restInTube := goodIn_r _ [6, 7, 8, 9, 10, 11, 12, 5, 13, 14, 15, 16, 17, 18, 19, 20, 21, 22, 23, 45, 46, 47, 48, 49, 50, 51, 52, 53, 54, 55, 56, 57, 58, 59] (by decide +kernel) (by decide +kernel)
set_option maxRecDepth 20000 in
theorem gX0_levelAt_X0_restInTube : GoodIn wsX0_levelAt (wsV RX0 74 RX0 yX0_restInTube wsX0_restInTube) := goodIn_app (goodIn_of _ (by decide +kernel)) ggX0_levelAt_X0_restInTube
set_option maxRecDepth 20000 in
theorem ggX0_levelAt_X3_lastPlaceWithin : GoodIn wsX0_levelAt wsX3_lastPlaceWithin := goodIn_r _ [28, 29, 30, 31, 27, 32, 33, 34, 35, 36, 37, 38, 39, 40, 41, 42, 43, 60, 61] (by decide +kernel) (by decide +kernel)
set_option maxRecDepth 20000 in
theorem gX0_levelAt_X3_lastPlaceWithin : GoodIn wsX0_levelAt (wsV RX0 78 RX3 yX3_lastPlaceWithin wsX3_lastPlaceWithin) := goodIn_app (goodIn_of _ (by decide +kernel)) ggX0_levelAt_X3_lastPlaceWithin
set_option maxRecDepth 20000 in
theorem ggX0_levelAt_X3_volumeUpTo : GoodIn wsX0_levelAt wsX3_volumeUpTo := goodIn_r _ [32, 33, 34, 35, 27, 36, 37, 38, 39, 40, 41, 42, 43, 60, 61] (by decide +kernel) (by decide +kernel)
set_option maxRecDepth 20000 in
theorem gX0_levelAt_X3_volumeUpTo : GoodIn wsX0_levelAt (wsV RX0 58 RX3 yX3_volumeUpTo wsX3_volumeUpTo) := goodIn_app (goodIn_of _ (by decide +kernel)) ggX0_levelAt_X3_volumeUpTo
set_option maxRecDepth 20000 in
theorem ggX0_levelAt_X0_liquidGrowth : GoodIn wsX0_levelAt wsX0_liquidGrowth := goodIn_r _ [13, 14, 45, 46, 47, 48, 49, 50, 51, 52, 53, 54, 55, 56, 57, 58, 59] (by decide +kernel) (by decide +kernel)
set_option maxRecDepth 20000 in
theorem gX0_levelAt_X0_liquidGrowth : GoodIn wsX0_levelAt (wsV RX0 82 RX0 yX0_liquidGrowth wsX0_liquidGrowth) := goodIn_app (goodIn_of _ (by decide +kernel)) ggX0_levelAt_X0_liquidGrowth
set_option maxRecDepth 20000 in
theorem ggX0_levelAt_X0_grown : GoodIn wsX0_levelAt wsX0_grown := goodIn_r _ [17, 18] (by decide +kernel) (by decide +kernel)
set_option maxRecDepth 20000 in
theorem gX0_levelAt_X0_grown : GoodIn wsX0_levelAt (va_wsS RX0 85 yX0_grown wsX0_grown) := goodIn_app (goodIn_of _ (by decide +kernel)) ggX0_levelAt_X0_grown
theorem dX0_levelAt_0 : decode cX0_levelAt 0 = .ok (.aload_n 0, 1) := by decide +kernel
theorem dX0_levelAt_1 : decode cX0_levelAt 1 = .ok (.iload_n 1, 1) := by decide +kernel
theorem dX0_levelAt_2 : decode cX0_levelAt 2 = .ok (.invokevirtual 74, 3) := by decide +kernel
theorem dX0_levelAt_5 : decode cX0_levelAt 5 = .ok (.lstore 4, 2) := by decide +kernel
theorem dX0_levelAt_7 : decode cX0_levelAt 7 = .ok (.aload_n 0, 1) := by decide +kernel
theorem dX0_levelAt_8 : decode cX0_levelAt 8 = .ok (.getfield 32, 3) := by decide +kernel
theorem dX0_levelAt_11 : decode cX0_levelAt 11 = .ok (.lload 4, 2) := by decide +kernel
theorem dX0_levelAt_13 : decode cX0_levelAt 13 = .ok (.invokevirtual 78, 3) := by decide +kernel
theorem dX0_levelAt_16 : decode cX0_levelAt 16 = .ok (.istore 6, 2) := by decide +kernel
theorem dX0_levelAt_18 : decode cX0_levelAt 18 = .ok (.iload 6, 2) := by decide +kernel
theorem dX0_levelAt_20 : decode cX0_levelAt 20 = .ok (.iload_n 2, 1) := by decide +kernel
theorem dX0_levelAt_21 : decode cX0_levelAt 21 = .ok (.if_icmp .gt 6, 3) := by decide +kernel
theorem dX0_levelAt_24 : decode cX0_levelAt 24 = .ok (.iload 6, 2) := by decide +kernel
theorem dX0_levelAt_26 : decode cX0_levelAt 26 = .ok (.ireturn, 1) := by decide +kernel
theorem dX0_levelAt_27 : decode cX0_levelAt 27 = .ok (.aload_n 0, 1) := by decide +kernel
theorem dX0_levelAt_28 : decode cX0_levelAt 28 = .ok (.getfield 32, 3) := by decide +kernel
theorem dX0_levelAt_31 : decode cX0_levelAt 31 = .ok (.iload 6, 2) := by decide +kernel
theorem dX0_levelAt_33 : decode cX0_levelAt 33 = .ok (.invokevirtual 58, 3) := by decide +kernel
theorem dX0_levelAt_36 : decode cX0_levelAt 36 = .ok (.aload_n 0, 1) := by decide +kernel
theorem dX0_levelAt_37 : decode cX0_levelAt 37 = .ok (.getfield 32, 3) := by decide +kernel
theorem dX0_levelAt_40 : decode cX0_levelAt 40 = .ok (.iload_n 2, 1) := by decide +kernel
theorem dX0_levelAt_41 : decode cX0_levelAt 41 = .ok (.invokevirtual 58, 3) := by decide +kernel
theorem dX0_levelAt_44 : decode cX0_levelAt 44 = .ok (.isub, 1) := by decide +kernel
theorem dX0_levelAt_45 : decode cX0_levelAt 45 = .ok (.i2l, 1) := by decide +kernel
theorem dX0_levelAt_46 : decode cX0_levelAt 46 = .ok (.lstore 7, 2) := by decide +kernel
theorem dX0_levelAt_48 : decode cX0_levelAt 48 = .ok (.aload_n 0, 1) := by decide +kernel
theorem dX0_levelAt_49 : decode cX0_levelAt 49 = .ok (.getfield 32, 3) := by decide +kernel
theorem dX0_levelAt_52 : decode cX0_levelAt 52 = .ok (.lload 4, 2) := by decide +kernel
theorem dX0_levelAt_54 : decode cX0_levelAt 54 = .ok (.lload 7, 2) := by decide +kernel
theorem dX0_levelAt_56 : decode cX0_levelAt 56 = .ok (.aload_n 0, 1) := by decide +kernel
theorem dX0_levelAt_57 : decode cX0_levelAt 57 = .ok (.invokevirtual 82, 3) := by decide +kernel
theorem dX0_levelAt_60 : decode cX0_levelAt 60 = .ok (.iload_n 1, 1) := by decide +kernel
theorem dX0_levelAt_61 : decode cX0_levelAt 61 = .ok (.iload_n 3, 1) := by decide +kernel
theorem dX0_levelAt_62 : decode cX0_levelAt 62 = .ok (.isub, 1) := by decide +kernel
theorem dX0_levelAt_63 : decode cX0_levelAt 63 = .ok (.invokestatic 85, 3) := by decide +kernel
theorem dX0_levelAt_66 : decode cX0_levelAt 66 = .ok (.lsub, 1) := by decide +kernel
theorem dX0_levelAt_67 : decode cX0_levelAt 67 = .ok (.invokevirtual 78, 3) := by decide +kernel
theorem dX0_levelAt_70 : decode cX0_levelAt 70 = .ok (.ireturn, 1) := by decide +kernel
set_option maxRecDepth 20000 in
theorem ggX0_restInTube_X0_liquidGrowth : GoodIn wsX0_restInTube wsX0_liquidGrowth := goodIn_r _ [8, 9, 19, 20, 21, 22, 23, 24, 25, 26, 27, 28, 29, 30, 31, 32, 33] (by decide +kernel) (by decide +kernel)
set_option maxRecDepth 20000 in
theorem gX0_restInTube_X0_liquidGrowth : GoodIn wsX0_restInTube (wsV RX0 82 RX0 yX0_liquidGrowth wsX0_liquidGrowth) := goodIn_app (goodIn_of _ (by decide +kernel)) ggX0_restInTube_X0_liquidGrowth
set_option maxRecDepth 20000 in
theorem ggX0_restInTube_X0_grown : GoodIn wsX0_restInTube wsX0_grown := goodIn_r _ [12, 13] (by decide +kernel) (by decide +kernel)
set_option maxRecDepth 20000 in
theorem gX0_restInTube_X0_grown : GoodIn wsX0_restInTube (va_wsS RX0 85 yX0_grown wsX0_grown) := goodIn_app (goodIn_of _ (by decide +kernel)) ggX0_restInTube_X0_grown
set_option maxRecDepth 20000 in
theorem ggX0_restInTube_X0_glassGrowth : GoodIn wsX0_restInTube wsX0_glassGrowth := goodIn_r _ [17, 18, 19, 20, 21, 22, 23, 24, 25, 26, 27, 28, 29, 30, 31, 32, 33] (by decide +kernel) (by decide +kernel)
set_option maxRecDepth 20000 in
theorem gX0_restInTube_X0_glassGrowth : GoodIn wsX0_restInTube (wsV RX0 89 RX0 yX0_glassGrowth wsX0_glassGrowth) := goodIn_app (goodIn_of _ (by decide +kernel)) ggX0_restInTube_X0_glassGrowth
theorem dX0_restInTube_0 : decode cX0_restInTube 0 = .ok (.aload_n 0, 1) := by decide +kernel
theorem dX0_restInTube_1 : decode cX0_restInTube 1 = .ok (.getfield 68, 3) := by decide +kernel
theorem dX0_restInTube_4 : decode cX0_restInTube 4 = .ok (.i2l, 1) := by decide +kernel
theorem dX0_restInTube_5 : decode cX0_restInTube 5 = .ok (.aload_n 0, 1) := by decide +kernel
theorem dX0_restInTube_6 : decode cX0_restInTube 6 = .ok (.getfield 68, 3) := by decide +kernel
theorem dX0_restInTube_9 : decode cX0_restInTube 9 = .ok (.i2l, 1) := by decide +kernel
theorem dX0_restInTube_10 : decode cX0_restInTube 10 = .ok (.aload_n 0, 1) := by decide +kernel
theorem dX0_restInTube_11 : decode cX0_restInTube 11 = .ok (.invokevirtual 82, 3) := by decide +kernel
theorem dX0_restInTube_14 : decode cX0_restInTube 14 = .ok (.iload_n 1, 1) := by decide +kernel
theorem dX0_restInTube_15 : decode cX0_restInTube 15 = .ok (.invokestatic 85, 3) := by decide +kernel
theorem dX0_restInTube_18 : decode cX0_restInTube 18 = .ok (.ladd, 1) := by decide +kernel
theorem dX0_restInTube_19 : decode cX0_restInTube 19 = .ok (.lstore_n 2, 1) := by decide +kernel
theorem dX0_restInTube_20 : decode cX0_restInTube 20 = .ok (.aload_n 0, 1) := by decide +kernel
theorem dX0_restInTube_21 : decode cX0_restInTube 21 = .ok (.getfield 36, 3) := by decide +kernel
theorem dX0_restInTube_24 : decode cX0_restInTube 24 = .ok (.i2l, 1) := by decide +kernel
theorem dX0_restInTube_25 : decode cX0_restInTube 25 = .ok (.aload_n 0, 1) := by decide +kernel
theorem dX0_restInTube_26 : decode cX0_restInTube 26 = .ok (.getfield 36, 3) := by decide +kernel
theorem dX0_restInTube_29 : decode cX0_restInTube 29 = .ok (.i2l, 1) := by decide +kernel
theorem dX0_restInTube_30 : decode cX0_restInTube 30 = .ok (.aload_n 0, 1) := by decide +kernel
theorem dX0_restInTube_31 : decode cX0_restInTube 31 = .ok (.invokevirtual 89, 3) := by decide +kernel
theorem dX0_restInTube_34 : decode cX0_restInTube 34 = .ok (.iload_n 1, 1) := by decide +kernel
theorem dX0_restInTube_35 : decode cX0_restInTube 35 = .ok (.invokestatic 85, 3) := by decide +kernel
theorem dX0_restInTube_38 : decode cX0_restInTube 38 = .ok (.ladd, 1) := by decide +kernel
theorem dX0_restInTube_39 : decode cX0_restInTube 39 = .ok (.lstore 4, 2) := by decide +kernel
theorem dX0_restInTube_41 : decode cX0_restInTube 41 = .ok (.lload_n 2, 1) := by decide +kernel
theorem dX0_restInTube_42 : decode cX0_restInTube 42 = .ok (.lload 4, 2) := by decide +kernel
theorem dX0_restInTube_44 : decode cX0_restInTube 44 = .ok (.lsub, 1) := by decide +kernel
theorem dX0_restInTube_45 : decode cX0_restInTube 45 = .ok (.aload_n 0, 1) := by decide +kernel
theorem dX0_restInTube_46 : decode cX0_restInTube 46 = .ok (.getfield 51, 3) := by decide +kernel
theorem dX0_restInTube_49 : decode cX0_restInTube 49 = .ok (.i2l, 1) := by decide +kernel
theorem dX0_restInTube_50 : decode cX0_restInTube 50 = .ok (.ladd, 1) := by decide +kernel
theorem dX0_restInTube_51 : decode cX0_restInTube 51 = .ok (.lreturn, 1) := by decide +kernel
theorem dX0_liquidGrowth_0 : decode cX0_liquidGrowth 0 = .ok (.aload_n 0, 1) := by decide +kernel
theorem dX0_liquidGrowth_1 : decode cX0_liquidGrowth 1 = .ok (.getfield 18, 3) := by decide +kernel
theorem dX0_liquidGrowth_4 : decode cX0_liquidGrowth 4 = .ok (.bipush 109, 2) := by decide +kernel
theorem dX0_liquidGrowth_6 : decode cX0_liquidGrowth 6 = .ok (.if_icmp .ne 8, 3) := by decide +kernel
theorem dX0_liquidGrowth_9 : decode cX0_liquidGrowth 9 = .ok (.bipush 18, 2) := by decide +kernel
theorem dX0_liquidGrowth_11 : decode cX0_liquidGrowth 11 = .ok (.goto 5, 3) := by decide +kernel
theorem dX0_liquidGrowth_14 : decode cX0_liquidGrowth 14 = .ok (.bipush 110, 2) := by decide +kernel
theorem dX0_liquidGrowth_16 : decode cX0_liquidGrowth 16 = .ok (.ireturn, 1) := by decide +kernel
theorem dX0_glassGrowth_0 : decode cX0_glassGrowth 0 = .ok (.aload_n 0, 1) := by decide +kernel
theorem dX0_glassGrowth_1 : decode cX0_glassGrowth 1 = .ok (.getfield 39, 3) := by decide +kernel
theorem dX0_glassGrowth_4 : decode cX0_glassGrowth 4 = .ok (.bipush 104, 2) := by decide +kernel
theorem dX0_glassGrowth_6 : decode cX0_glassGrowth 6 = .ok (.if_icmp .ne 7, 3) := by decide +kernel
theorem dX0_glassGrowth_9 : decode cX0_glassGrowth 9 = .ok (.iconst 1, 1) := by decide +kernel
theorem dX0_glassGrowth_10 : decode cX0_glassGrowth 10 = .ok (.goto 4, 3) := by decide +kernel
theorem dX0_glassGrowth_13 : decode cX0_glassGrowth 13 = .ok (.iconst 3, 1) := by decide +kernel
theorem dX0_glassGrowth_14 : decode cX0_glassGrowth 14 = .ok (.ireturn, 1) := by decide +kernel
theorem dX0_grown_0 : decode cX0_grown 0 = .ok (.lload_n 0, 1) := by decide +kernel
theorem dX0_grown_1 : decode cX0_grown 1 = .ok (.iload_n 2, 1) := by decide +kernel
theorem dX0_grown_2 : decode cX0_grown 2 = .ok (.i2l, 1) := by decide +kernel
theorem dX0_grown_3 : decode cX0_grown 3 = .ok (.lmul, 1) := by decide +kernel
theorem dX0_grown_4 : decode cX0_grown 4 = .ok (.iload_n 3, 1) := by decide +kernel
theorem dX0_grown_5 : decode cX0_grown 5 = .ok (.i2l, 1) := by decide +kernel
theorem dX0_grown_6 : decode cX0_grown 6 = .ok (.lmul, 1) := by decide +kernel
theorem dX0_grown_7 : decode cX0_grown 7 = .ok (.ldc2_w 92, 3) := by decide +kernel
theorem dX0_grown_10 : decode cX0_grown 10 = .ok (.ldiv, 1) := by decide +kernel
theorem dX0_grown_11 : decode cX0_grown 11 = .ok (.lreturn, 1) := by decide +kernel
set_option maxRecDepth 20000 in
theorem ggX0_readInBath_X0_levelShown : GoodIn wsX0_readInBath wsX0_levelShown := goodIn_r _ [14, 15, 16, 17, 18, 5, 19, 57, 58, 59, 60, 61, 62, 63, 64, 65, 66, 67, 68, 69, 70, 71] (by decide +kernel) (by decide +kernel)
set_option maxRecDepth 20000 in
theorem gX0_readInBath_X0_levelShown : GoodIn wsX0_readInBath (wsV RX0 97 RX0 yX0_levelShown wsX0_levelShown) := goodIn_app (goodIn_of _ (by decide +kernel)) ggX0_readInBath_X0_levelShown
set_option maxRecDepth 20000 in
theorem ggX0_readInBath_X2_readingAt : GoodIn wsX0_readInBath wsX2_readingAt := goodIn_r _ [24, 25, 26, 27, 28, 29, 23, 30, 31, 32, 33, 34, 35, 36, 37, 38, 39, 40, 41, 42, 43, 4, 5, 6, 44, 18, 19, 72, 73, 74, 75, 76, 77, 78] (by decide +kernel) (by decide +kernel)
set_option maxRecDepth 20000 in
theorem gX0_readInBath_X2_readingAt : GoodIn wsX0_readInBath (wsV RX0 106 RX2 yX2_readingAt wsX2_readingAt) := goodIn_app (goodIn_of _ (by decide +kernel)) ggX0_readInBath_X2_readingAt
set_option maxRecDepth 20000 in
theorem ggX0_readInBath_X1_append : GoodIn wsX0_readInBath wsX1_append := goodIn_r _ [49, 50, 51, 52, 53, 54, 55, 48, 56, 79, 80, 81] (by decide +kernel) (by decide +kernel)
set_option maxRecDepth 20000 in
theorem gX0_readInBath_X1_append : GoodIn wsX0_readInBath (wsV RX0 109 RX1 yX1_append wsX1_append) := goodIn_app (goodIn_of _ (by decide +kernel)) ggX0_readInBath_X1_append
theorem dX0_readInBath_0 : decode cX0_readInBath 0 = .ok (.iload_n 1, 1) := by decide +kernel
theorem dX0_readInBath_1 : decode cX0_readInBath 1 = .ok (.sipush (-200), 3) := by decide +kernel
theorem dX0_readInBath_4 : decode cX0_readInBath 4 = .ok (.if_icmp .gt 8, 3) := by decide +kernel
theorem dX0_readInBath_7 : decode cX0_readInBath 7 = .ok (.aload_n 0, 1) := by decide +kernel
theorem dX0_readInBath_8 : decode cX0_readInBath 8 = .ok (.iconst 0, 1) := by decide +kernel
theorem dX0_readInBath_9 : decode cX0_readInBath 9 = .ok (.putfield 94, 3) := by decide +kernel
theorem dX0_readInBath_12 : decode cX0_readInBath 12 = .ok (.aload_n 0, 1) := by decide +kernel
theorem dX0_readInBath_13 : decode cX0_readInBath 13 = .ok (.getfield 47, 3) := by decide +kernel
theorem dX0_readInBath_16 : decode cX0_readInBath 16 = .ok (.sipush 200, 3) := by decide +kernel
theorem dX0_readInBath_19 : decode cX0_readInBath 19 = .ok (.aload_n 0, 1) := by decide +kernel
theorem dX0_readInBath_20 : decode cX0_readInBath 20 = .ok (.iload_n 2, 1) := by decide +kernel
theorem dX0_readInBath_21 : decode cX0_readInBath 21 = .ok (.invokevirtual 97, 3) := by decide +kernel
theorem dX0_readInBath_24 : decode cX0_readInBath 24 = .ok (.aload_n 0, 1) := by decide +kernel
theorem dX0_readInBath_25 : decode cX0_readInBath 25 = .ok (.getfield 94, 3) := by decide +kernel
theorem dX0_readInBath_28 : decode cX0_readInBath 28 = .ok (.iadd, 1) := by decide +kernel
theorem dX0_readInBath_29 : decode cX0_readInBath 29 = .ok (.invokestatic 100, 3) := by decide +kernel
theorem dX0_readInBath_32 : decode cX0_readInBath 32 = .ok (.invokevirtual 106, 3) := by decide +kernel
theorem dX0_readInBath_35 : decode cX0_readInBath 35 = .ok (.istore_n 3, 1) := by decide +kernel
theorem dX0_readInBath_36 : decode cX0_readInBath 36 = .ok (.aload_n 0, 1) := by decide +kernel
theorem dX0_readInBath_37 : decode cX0_readInBath 37 = .ok (.getfield 12, 3) := by decide +kernel
theorem dX0_readInBath_40 : decode cX0_readInBath 40 = .ok (.iload_n 3, 1) := by decide +kernel
theorem dX0_readInBath_41 : decode cX0_readInBath 41 = .ok (.iload_n 1, 1) := by decide +kernel
theorem dX0_readInBath_42 : decode cX0_readInBath 42 = .ok (.invokevirtual 109, 3) := by decide +kernel
theorem dX0_readInBath_45 : decode cX0_readInBath 45 = .ok (.iload_n 1, 1) := by decide +kernel
theorem dX0_readInBath_46 : decode cX0_readInBath 46 = .ok (.sipush 2000, 3) := by decide +kernel
theorem dX0_readInBath_49 : decode cX0_readInBath 49 = .ok (.if_icmp .le 18, 3) := by decide +kernel
theorem dX0_readInBath_52 : decode cX0_readInBath 52 = .ok (.aload_n 0, 1) := by decide +kernel
theorem dX0_readInBath_53 : decode cX0_readInBath 53 = .ok (.dup, 1) := by decide +kernel
theorem dX0_readInBath_54 : decode cX0_readInBath 54 = .ok (.getfield 51, 3) := by decide +kernel
theorem dX0_readInBath_57 : decode cX0_readInBath 57 = .ok (.iconst 2, 1) := by decide +kernel
theorem dX0_readInBath_58 : decode cX0_readInBath 58 = .ok (.idiv, 1) := by decide +kernel
theorem dX0_readInBath_59 : decode cX0_readInBath 59 = .ok (.putfield 51, 3) := by decide +kernel
theorem dX0_readInBath_62 : decode cX0_readInBath 62 = .ok (.aload_n 0, 1) := by decide +kernel
theorem dX0_readInBath_63 : decode cX0_readInBath 63 = .ok (.iconst (-1), 1) := by decide +kernel
theorem dX0_readInBath_64 : decode cX0_readInBath 64 = .ok (.putfield 26, 3) := by decide +kernel
theorem dX0_readInBath_67 : decode cX0_readInBath 67 = .ok (.iload_n 3, 1) := by decide +kernel
theorem dX0_readInBath_68 : decode cX0_readInBath 68 = .ok (.ireturn, 1) := by decide +kernel
theorem dX0_levelShown_0 : decode cX0_levelShown 0 = .ok (.aload_n 0, 1) := by decide +kernel
theorem dX0_levelShown_1 : decode cX0_levelShown 1 = .ok (.getfield 113, 3) := by decide +kernel
theorem dX0_levelShown_4 : decode cX0_levelShown 4 = .ok (.ifCond .ne 5, 3) := by decide +kernel
theorem dX0_levelShown_7 : decode cX0_levelShown 7 = .ok (.iload_n 1, 1) := by decide +kernel
theorem dX0_levelShown_8 : decode cX0_levelShown 8 = .ok (.ireturn, 1) := by decide +kernel
theorem dX0_levelShown_9 : decode cX0_levelShown 9 = .ok (.aload_n 0, 1) := by decide +kernel
theorem dX0_levelShown_10 : decode cX0_levelShown 10 = .ok (.aload_n 0, 1) := by decide +kernel
theorem dX0_levelShown_11 : decode cX0_levelShown 11 = .ok (.getfield 22, 3) := by decide +kernel
theorem dX0_levelShown_14 : decode cX0_levelShown 14 = .ok (.iload_n 1, 1) := by decide +kernel
theorem dX0_levelShown_15 : decode cX0_levelShown 15 = .ok (.invokestatic 116, 3) := by decide +kernel
theorem dX0_levelShown_18 : decode cX0_levelShown 18 = .ok (.putfield 22, 3) := by decide +kernel
theorem dX0_levelShown_21 : decode cX0_levelShown 21 = .ok (.aload_n 0, 1) := by decide +kernel
theorem dX0_levelShown_22 : decode cX0_levelShown 22 = .ok (.getfield 22, 3) := by decide +kernel
theorem dX0_levelShown_25 : decode cX0_levelShown 25 = .ok (.ireturn, 1) := by decide +kernel
theorem dX0_holdsCertificateOn_0 : decode cX0_holdsCertificateOn 0 = .ok (.aload_n 0, 1) := by decide +kernel
theorem dX0_holdsCertificateOn_1 : decode cX0_holdsCertificateOn 1 = .ok (.getfield 71, 3) := by decide +kernel
theorem dX0_holdsCertificateOn_4 : decode cX0_holdsCertificateOn 4 = .ok (.ifCond .ne 15, 3) := by decide +kernel
theorem dX0_holdsCertificateOn_7 : decode cX0_holdsCertificateOn 7 = .ok (.iload_n 1, 1) := by decide +kernel
theorem dX0_holdsCertificateOn_8 : decode cX0_holdsCertificateOn 8 = .ok (.aload_n 0, 1) := by decide +kernel
theorem dX0_holdsCertificateOn_9 : decode cX0_holdsCertificateOn 9 = .ok (.getfield 26, 3) := by decide +kernel
theorem dX0_holdsCertificateOn_12 : decode cX0_holdsCertificateOn 12 = .ok (.if_icmp .gt 7, 3) := by decide +kernel
theorem dX0_holdsCertificateOn_15 : decode cX0_holdsCertificateOn 15 = .ok (.iconst 1, 1) := by decide +kernel
theorem dX0_holdsCertificateOn_16 : decode cX0_holdsCertificateOn 16 = .ok (.goto 4, 3) := by decide +kernel
theorem dX0_holdsCertificateOn_19 : decode cX0_holdsCertificateOn 19 = .ok (.iconst 0, 1) := by decide +kernel
theorem dX0_holdsCertificateOn_20 : decode cX0_holdsCertificateOn 20 = .ok (.ireturn, 1) := by decide +kernel
set_option maxRecDepth 20000 in
theorem ggX0_isInBounds_X0_creepsInAll : GoodIn wsX0_isInBounds wsX0_creepsInAll := goodIn_r _ [7, 8, 9, 10, 11, 12, 13, 14, 15, 16, 17, 18, 19, 20, 21, 22, 23, 24] (by decide +kernel) (by decide +kernel)
set_option maxRecDepth 20000 in
theorem gX0_isInBounds_X0_creepsInAll : GoodIn wsX0_isInBounds (wsV RX0 54 RX0 yX0_creepsInAll wsX0_creepsInAll) := goodIn_app (goodIn_of _ (by decide +kernel)) ggX0_isInBounds_X0_creepsInAll
theorem dX0_isInBounds_0 : decode cX0_isInBounds 0 = .ok (.aload_n 0, 1) := by decide +kernel
theorem dX0_isInBounds_1 : decode cX0_isInBounds 1 = .ok (.getfield 51, 3) := by decide +kernel
theorem dX0_isInBounds_4 : decode cX0_isInBounds 4 = .ok (.ifCond .lt 30, 3) := by decide +kernel
theorem dX0_isInBounds_7 : decode cX0_isInBounds 7 = .ok (.aload_n 0, 1) := by decide +kernel
theorem dX0_isInBounds_8 : decode cX0_isInBounds 8 = .ok (.getfield 51, 3) := by decide +kernel
theorem dX0_isInBounds_11 : decode cX0_isInBounds 11 = .ok (.aload_n 0, 1) := by decide +kernel
theorem dX0_isInBounds_12 : decode cX0_isInBounds 12 = .ok (.invokevirtual 54, 3) := by decide +kernel
theorem dX0_isInBounds_15 : decode cX0_isInBounds 15 = .ok (.if_icmp .gt 19, 3) := by decide +kernel
theorem dX0_isInBounds_18 : decode cX0_isInBounds 18 = .ok (.aload_n 0, 1) := by decide +kernel
theorem dX0_isInBounds_19 : decode cX0_isInBounds 19 = .ok (.getfield 12, 3) := by decide +kernel
theorem dX0_isInBounds_22 : decode cX0_isInBounds 22 = .ok (.getfield 119, 3) := by decide +kernel
theorem dX0_isInBounds_25 : decode cX0_isInBounds 25 = .ok (.bipush 8, 2) := by decide +kernel
theorem dX0_isInBounds_27 : decode cX0_isInBounds 27 = .ok (.if_icmp .gt 7, 3) := by decide +kernel
theorem dX0_isInBounds_30 : decode cX0_isInBounds 30 = .ok (.iconst 1, 1) := by decide +kernel
theorem dX0_isInBounds_31 : decode cX0_isInBounds 31 = .ok (.goto 4, 3) := by decide +kernel
theorem dX0_isInBounds_34 : decode cX0_isInBounds 34 = .ok (.iconst 0, 1) := by decide +kernel
theorem dX0_isInBounds_35 : decode cX0_isInBounds 35 = .ok (.ireturn, 1) := by decide +kernel
set_option maxRecDepth 20000 in
theorem ggX0_addTo_X1_addTo : GoodIn wsX0_addTo wsX1_addTo := goodIn_r _ [9, 10, 11, 12, 28, 29, 30] (by decide +kernel) (by decide +kernel)
set_option maxRecDepth 20000 in
theorem gX0_addTo_X1_addTo : GoodIn wsX0_addTo (wsV RX0 124 RX1 yX1_addTo wsX1_addTo) := goodIn_app (goodIn_of _ (by decide +kernel)) ggX0_addTo_X1_addTo
theorem dX0_addTo_0 : decode cX0_addTo 0 = .ok (.ldc2_w 122, 3) := by decide +kernel
theorem dX0_addTo_3 : decode cX0_addTo 3 = .ok (.ldc2_w 122, 3) := by decide +kernel
theorem dX0_addTo_6 : decode cX0_addTo 6 = .ok (.lload_n 1, 1) := by decide +kernel
theorem dX0_addTo_7 : decode cX0_addTo 7 = .ok (.lmul, 1) := by decide +kernel
theorem dX0_addTo_8 : decode cX0_addTo 8 = .ok (.aload_n 0, 1) := by decide +kernel
theorem dX0_addTo_9 : decode cX0_addTo 9 = .ok (.getfield 68, 3) := by decide +kernel
theorem dX0_addTo_12 : decode cX0_addTo 12 = .ok (.i2l, 1) := by decide +kernel
theorem dX0_addTo_13 : decode cX0_addTo 13 = .ok (.ladd, 1) := by decide +kernel
theorem dX0_addTo_14 : decode cX0_addTo 14 = .ok (.lmul, 1) := by decide +kernel
theorem dX0_addTo_15 : decode cX0_addTo 15 = .ok (.aload_n 0, 1) := by decide +kernel
theorem dX0_addTo_16 : decode cX0_addTo 16 = .ok (.getfield 51, 3) := by decide +kernel
theorem dX0_addTo_19 : decode cX0_addTo 19 = .ok (.i2l, 1) := by decide +kernel
theorem dX0_addTo_20 : decode cX0_addTo 20 = .ok (.ladd, 1) := by decide +kernel
theorem dX0_addTo_21 : decode cX0_addTo 21 = .ok (.lstore_n 3, 1) := by decide +kernel
theorem dX0_addTo_22 : decode cX0_addTo 22 = .ok (.aload_n 0, 1) := by decide +kernel
theorem dX0_addTo_23 : decode cX0_addTo 23 = .ok (.getfield 12, 3) := by decide +kernel
theorem dX0_addTo_26 : decode cX0_addTo 26 = .ok (.lload_n 3, 1) := by decide +kernel
theorem dX0_addTo_27 : decode cX0_addTo 27 = .ok (.invokevirtual 124, 3) := by decide +kernel
theorem dX0_addTo_30 : decode cX0_addTo 30 = .ok (.lreturn, 1) := by decide +kernel
theorem dX1_init_0 : decode cX1_init 0 = .ok (.aload_n 0, 1) := by decide +kernel
theorem dX1_init_1 : decode cX1_init 1 = .ok (.invokespecial 3, 3) := by decide +kernel
theorem dX1_init_4 : decode cX1_init 4 = .ok (.aload_n 0, 1) := by decide +kernel
theorem dX1_init_5 : decode cX1_init 5 = .ok (.bipush 8, 2) := by decide +kernel
theorem dX1_init_7 : decode cX1_init 7 = .ok (.newarray .int, 2) := by decide +kernel
theorem dX1_init_9 : decode cX1_init 9 = .ok (.putfield 9, 3) := by decide +kernel
theorem dX1_init_12 : decode cX1_init 12 = .ok (.aload_n 0, 1) := by decide +kernel
theorem dX1_init_13 : decode cX1_init 13 = .ok (.bipush 8, 2) := by decide +kernel
theorem dX1_init_15 : decode cX1_init 15 = .ok (.newarray .int, 2) := by decide +kernel
theorem dX1_init_17 : decode cX1_init 17 = .ok (.putfield 15, 3) := by decide +kernel
theorem dX1_init_20 : decode cX1_init 20 = .ok (.return_, 1) := by decide +kernel
set_option maxRecDepth 20000 in
theorem ggX1_append_X1_loseOldest : GoodIn wsX1_append wsX1_loseOldest := goodIn_r _ [8, 2, 3, 1, 9, 10, 11] (by decide +kernel) (by decide +kernel)
set_option maxRecDepth 20000 in
theorem gX1_append_X1_loseOldest : GoodIn wsX1_append (wsV RX1 22 RX1 yX1_loseOldest wsX1_loseOldest) := goodIn_app (goodIn_of _ (by decide +kernel)) ggX1_append_X1_loseOldest
theorem dX1_append_0 : decode cX1_append 0 = .ok (.aload_n 0, 1) := by decide +kernel
theorem dX1_append_1 : decode cX1_append 1 = .ok (.getfield 18, 3) := by decide +kernel
theorem dX1_append_4 : decode cX1_append 4 = .ok (.bipush 8, 2) := by decide +kernel
theorem dX1_append_6 : decode cX1_append 6 = .ok (.if_icmp .lt 7, 3) := by decide +kernel
theorem dX1_append_9 : decode cX1_append 9 = .ok (.aload_n 0, 1) := by decide +kernel
theorem dX1_append_10 : decode cX1_append 10 = .ok (.invokevirtual 22, 3) := by decide +kernel
theorem dX1_append_13 : decode cX1_append 13 = .ok (.aload_n 0, 1) := by decide +kernel
theorem dX1_append_14 : decode cX1_append 14 = .ok (.getfield 18, 3) := by decide +kernel
theorem dX1_append_17 : decode cX1_append 17 = .ok (.ifCond .lt 44, 3) := by decide +kernel
theorem dX1_append_20 : decode cX1_append 20 = .ok (.aload_n 0, 1) := by decide +kernel
theorem dX1_append_21 : decode cX1_append 21 = .ok (.getfield 18, 3) := by decide +kernel
theorem dX1_append_24 : decode cX1_append 24 = .ok (.bipush 8, 2) := by decide +kernel
theorem dX1_append_26 : decode cX1_append 26 = .ok (.if_icmp .ge 35, 3) := by decide +kernel
theorem dX1_append_29 : decode cX1_append 29 = .ok (.aload_n 0, 1) := by decide +kernel
theorem dX1_append_30 : decode cX1_append 30 = .ok (.getfield 9, 3) := by decide +kernel
theorem dX1_append_33 : decode cX1_append 33 = .ok (.aload_n 0, 1) := by decide +kernel
theorem dX1_append_34 : decode cX1_append 34 = .ok (.getfield 18, 3) := by decide +kernel
theorem dX1_append_37 : decode cX1_append 37 = .ok (.iload_n 1, 1) := by decide +kernel
theorem dX1_append_38 : decode cX1_append 38 = .ok (.iastore, 1) := by decide +kernel
theorem dX1_append_39 : decode cX1_append 39 = .ok (.aload_n 0, 1) := by decide +kernel
theorem dX1_append_40 : decode cX1_append 40 = .ok (.getfield 15, 3) := by decide +kernel
theorem dX1_append_43 : decode cX1_append 43 = .ok (.aload_n 0, 1) := by decide +kernel
theorem dX1_append_44 : decode cX1_append 44 = .ok (.getfield 18, 3) := by decide +kernel
theorem dX1_append_47 : decode cX1_append 47 = .ok (.iload_n 1, 1) := by decide +kernel
theorem dX1_append_48 : decode cX1_append 48 = .ok (.iload_n 2, 1) := by decide +kernel
theorem dX1_append_49 : decode cX1_append 49 = .ok (.isub, 1) := by decide +kernel
theorem dX1_append_50 : decode cX1_append 50 = .ok (.iastore, 1) := by decide +kernel
theorem dX1_append_51 : decode cX1_append 51 = .ok (.aload_n 0, 1) := by decide +kernel
theorem dX1_append_52 : decode cX1_append 52 = .ok (.dup, 1) := by decide +kernel
theorem dX1_append_53 : decode cX1_append 53 = .ok (.getfield 18, 3) := by decide +kernel
theorem dX1_append_56 : decode cX1_append 56 = .ok (.iconst 1, 1) := by decide +kernel
theorem dX1_append_57 : decode cX1_append 57 = .ok (.iadd, 1) := by decide +kernel
theorem dX1_append_58 : decode cX1_append 58 = .ok (.putfield 18, 3) := by decide +kernel
theorem dX1_append_61 : decode cX1_append 61 = .ok (.return_, 1) := by decide +kernel
theorem dX1_loseOldest_0 : decode cX1_loseOldest 0 = .ok (.iconst 1, 1) := by decide +kernel
theorem dX1_loseOldest_1 : decode cX1_loseOldest 1 = .ok (.istore_n 1, 1) := by decide +kernel
theorem dX1_loseOldest_2 : decode cX1_loseOldest 2 = .ok (.iload_n 1, 1) := by decide +kernel
theorem dX1_loseOldest_3 : decode cX1_loseOldest 3 = .ok (.bipush 8, 2) := by decide +kernel
theorem dX1_loseOldest_5 : decode cX1_loseOldest 5 = .ok (.if_icmp .ge 37, 3) := by decide +kernel
theorem dX1_loseOldest_8 : decode cX1_loseOldest 8 = .ok (.aload_n 0, 1) := by decide +kernel
theorem dX1_loseOldest_9 : decode cX1_loseOldest 9 = .ok (.getfield 9, 3) := by decide +kernel
theorem dX1_loseOldest_12 : decode cX1_loseOldest 12 = .ok (.iload_n 1, 1) := by decide +kernel
theorem dX1_loseOldest_13 : decode cX1_loseOldest 13 = .ok (.iconst 1, 1) := by decide +kernel
theorem dX1_loseOldest_14 : decode cX1_loseOldest 14 = .ok (.isub, 1) := by decide +kernel
theorem dX1_loseOldest_15 : decode cX1_loseOldest 15 = .ok (.aload_n 0, 1) := by decide +kernel
theorem dX1_loseOldest_16 : decode cX1_loseOldest 16 = .ok (.getfield 9, 3) := by decide +kernel
theorem dX1_loseOldest_19 : decode cX1_loseOldest 19 = .ok (.iload_n 1, 1) := by decide +kernel
theorem dX1_loseOldest_20 : decode cX1_loseOldest 20 = .ok (.iaload, 1) := by decide +kernel
theorem dX1_loseOldest_21 : decode cX1_loseOldest 21 = .ok (.iastore, 1) := by decide +kernel
theorem dX1_loseOldest_22 : decode cX1_loseOldest 22 = .ok (.aload_n 0, 1) := by decide +kernel
theorem dX1_loseOldest_23 : decode cX1_loseOldest 23 = .ok (.getfield 15, 3) := by decide +kernel
theorem dX1_loseOldest_26 : decode cX1_loseOldest 26 = .ok (.iload_n 1, 1) := by decide +kernel
theorem dX1_loseOldest_27 : decode cX1_loseOldest 27 = .ok (.iconst 1, 1) := by decide +kernel
theorem dX1_loseOldest_28 : decode cX1_loseOldest 28 = .ok (.isub, 1) := by decide +kernel
theorem dX1_loseOldest_29 : decode cX1_loseOldest 29 = .ok (.aload_n 0, 1) := by decide +kernel
theorem dX1_loseOldest_30 : decode cX1_loseOldest 30 = .ok (.getfield 15, 3) := by decide +kernel
theorem dX1_loseOldest_33 : decode cX1_loseOldest 33 = .ok (.iload_n 1, 1) := by decide +kernel
theorem dX1_loseOldest_34 : decode cX1_loseOldest 34 = .ok (.iaload, 1) := by decide +kernel
theorem dX1_loseOldest_35 : decode cX1_loseOldest 35 = .ok (.iastore, 1) := by decide +kernel
theorem dX1_loseOldest_36 : decode cX1_loseOldest 36 = .ok (.iinc 1 1, 3) := by decide +kernel
theorem dX1_loseOldest_39 : decode cX1_loseOldest 39 = .ok (.goto (-37), 3) := by decide +kernel
theorem dX1_loseOldest_42 : decode cX1_loseOldest 42 = .ok (.aload_n 0, 1) := by decide +kernel
theorem dX1_loseOldest_43 : decode cX1_loseOldest 43 = .ok (.bipush 7, 2) := by decide +kernel
theorem dX1_loseOldest_45 : decode cX1_loseOldest 45 = .ok (.putfield 18, 3) := by decide +kernel
theorem dX1_loseOldest_48 : decode cX1_loseOldest 48 = .ok (.return_, 1) := by decide +kernel
theorem dX1_newestError_0 : decode cX1_newestError 0 = .ok (.aload_n 0, 1) := by decide +kernel
theorem dX1_newestError_1 : decode cX1_newestError 1 = .ok (.getfield 18, 3) := by decide +kernel
theorem dX1_newestError_4 : decode cX1_newestError 4 = .ok (.ifCond .le 26, 3) := by decide +kernel
theorem dX1_newestError_7 : decode cX1_newestError 7 = .ok (.aload_n 0, 1) := by decide +kernel
theorem dX1_newestError_8 : decode cX1_newestError 8 = .ok (.getfield 18, 3) := by decide +kernel
theorem dX1_newestError_11 : decode cX1_newestError 11 = .ok (.bipush 8, 2) := by decide +kernel
theorem dX1_newestError_13 : decode cX1_newestError 13 = .ok (.if_icmp .gt 17, 3) := by decide +kernel
theorem dX1_newestError_16 : decode cX1_newestError 16 = .ok (.aload_n 0, 1) := by decide +kernel
theorem dX1_newestError_17 : decode cX1_newestError 17 = .ok (.getfield 15, 3) := by decide +kernel
theorem dX1_newestError_20 : decode cX1_newestError 20 = .ok (.aload_n 0, 1) := by decide +kernel
theorem dX1_newestError_21 : decode cX1_newestError 21 = .ok (.getfield 18, 3) := by decide +kernel
theorem dX1_newestError_24 : decode cX1_newestError 24 = .ok (.iconst 1, 1) := by decide +kernel
theorem dX1_newestError_25 : decode cX1_newestError 25 = .ok (.isub, 1) := by decide +kernel
theorem dX1_newestError_26 : decode cX1_newestError 26 = .ok (.iaload, 1) := by decide +kernel
theorem dX1_newestError_27 : decode cX1_newestError 27 = .ok (.goto 4, 3) := by decide +kernel
theorem dX1_newestError_30 : decode cX1_newestError 30 = .ok (.iconst 0, 1) := by decide +kernel
theorem dX1_newestError_31 : decode cX1_newestError 31 = .ok (.ireturn, 1) := by decide +kernel
theorem dX1_greatestError_0 : decode cX1_greatestError 0 = .ok (.iconst 0, 1) := by decide +kernel
theorem dX1_greatestError_1 : decode cX1_greatestError 1 = .ok (.istore_n 1, 1) := by decide +kernel
theorem dX1_greatestError_2 : decode cX1_greatestError 2 = .ok (.iconst 0, 1) := by decide +kernel
theorem dX1_greatestError_3 : decode cX1_greatestError 3 = .ok (.istore_n 2, 1) := by decide +kernel
theorem dX1_greatestError_4 : decode cX1_greatestError 4 = .ok (.iload_n 2, 1) := by decide +kernel
theorem dX1_greatestError_5 : decode cX1_greatestError 5 = .ok (.bipush 8, 2) := by decide +kernel
theorem dX1_greatestError_7 : decode cX1_greatestError 7 = .ok (.if_icmp .ge 31, 3) := by decide +kernel
theorem dX1_greatestError_10 : decode cX1_greatestError 10 = .ok (.iload_n 2, 1) := by decide +kernel
theorem dX1_greatestError_11 : decode cX1_greatestError 11 = .ok (.aload_n 0, 1) := by decide +kernel
theorem dX1_greatestError_12 : decode cX1_greatestError 12 = .ok (.getfield 18, 3) := by decide +kernel
theorem dX1_greatestError_15 : decode cX1_greatestError 15 = .ok (.if_icmp .ge 23, 3) := by decide +kernel
theorem dX1_greatestError_18 : decode cX1_greatestError 18 = .ok (.iload_n 1, 1) := by decide +kernel
theorem dX1_greatestError_19 : decode cX1_greatestError 19 = .ok (.aload_n 0, 1) := by decide +kernel
theorem dX1_greatestError_20 : decode cX1_greatestError 20 = .ok (.getfield 15, 3) := by decide +kernel
theorem dX1_greatestError_23 : decode cX1_greatestError 23 = .ok (.iload_n 2, 1) := by decide +kernel
theorem dX1_greatestError_24 : decode cX1_greatestError 24 = .ok (.iaload, 1) := by decide +kernel
theorem dX1_greatestError_25 : decode cX1_greatestError 25 = .ok (.invokestatic 25, 3) := by decide +kernel
theorem dX1_greatestError_28 : decode cX1_greatestError 28 = .ok (.invokestatic 31, 3) := by decide +kernel
theorem dX1_greatestError_31 : decode cX1_greatestError 31 = .ok (.istore_n 1, 1) := by decide +kernel
theorem dX1_greatestError_32 : decode cX1_greatestError 32 = .ok (.iinc 2 1, 3) := by decide +kernel
theorem dX1_greatestError_35 : decode cX1_greatestError 35 = .ok (.goto (-31), 3) := by decide +kernel
theorem dX1_greatestError_38 : decode cX1_greatestError 38 = .ok (.iload_n 1, 1) := by decide +kernel
theorem dX1_greatestError_39 : decode cX1_greatestError 39 = .ok (.ireturn, 1) := by decide +kernel
theorem dX1_errorSum_0 : decode cX1_errorSum 0 = .ok (.iconst 0, 1) := by decide +kernel
theorem dX1_errorSum_1 : decode cX1_errorSum 1 = .ok (.istore_n 1, 1) := by decide +kernel
theorem dX1_errorSum_2 : decode cX1_errorSum 2 = .ok (.iconst 0, 1) := by decide +kernel
theorem dX1_errorSum_3 : decode cX1_errorSum 3 = .ok (.istore_n 2, 1) := by decide +kernel
theorem dX1_errorSum_4 : decode cX1_errorSum 4 = .ok (.iload_n 2, 1) := by decide +kernel
theorem dX1_errorSum_5 : decode cX1_errorSum 5 = .ok (.bipush 8, 2) := by decide +kernel
theorem dX1_errorSum_7 : decode cX1_errorSum 7 = .ok (.if_icmp .ge 26, 3) := by decide +kernel
theorem dX1_errorSum_10 : decode cX1_errorSum 10 = .ok (.iload_n 2, 1) := by decide +kernel
theorem dX1_errorSum_11 : decode cX1_errorSum 11 = .ok (.aload_n 0, 1) := by decide +kernel
theorem dX1_errorSum_12 : decode cX1_errorSum 12 = .ok (.getfield 18, 3) := by decide +kernel
theorem dX1_errorSum_15 : decode cX1_errorSum 15 = .ok (.if_icmp .ge 18, 3) := by decide +kernel
theorem dX1_errorSum_18 : decode cX1_errorSum 18 = .ok (.iload_n 1, 1) := by decide +kernel
theorem dX1_errorSum_19 : decode cX1_errorSum 19 = .ok (.aload_n 0, 1) := by decide +kernel
theorem dX1_errorSum_20 : decode cX1_errorSum 20 = .ok (.getfield 15, 3) := by decide +kernel
theorem dX1_errorSum_23 : decode cX1_errorSum 23 = .ok (.iload_n 2, 1) := by decide +kernel
theorem dX1_errorSum_24 : decode cX1_errorSum 24 = .ok (.iaload, 1) := by decide +kernel
theorem dX1_errorSum_25 : decode cX1_errorSum 25 = .ok (.iadd, 1) := by decide +kernel
theorem dX1_errorSum_26 : decode cX1_errorSum 26 = .ok (.istore_n 1, 1) := by decide +kernel
theorem dX1_errorSum_27 : decode cX1_errorSum 27 = .ok (.iinc 2 1, 3) := by decide +kernel
theorem dX1_errorSum_30 : decode cX1_errorSum 30 = .ok (.goto (-26), 3) := by decide +kernel
theorem dX1_errorSum_33 : decode cX1_errorSum 33 = .ok (.iload_n 1, 1) := by decide +kernel
theorem dX1_errorSum_34 : decode cX1_errorSum 34 = .ok (.ireturn, 1) := by decide +kernel
theorem dX1_addTo_0 : decode cX1_addTo 0 = .ok (.lload_n 1, 1) := by decide +kernel
theorem dX1_addTo_1 : decode cX1_addTo 1 = .ok (.lstore_n 3, 1) := by decide +kernel
theorem dX1_addTo_2 : decode cX1_addTo 2 = .ok (.iconst 0, 1) := by decide +kernel
theorem dX1_addTo_3 : decode cX1_addTo 3 = .ok (.istore 5, 2) := by decide +kernel
theorem dX1_addTo_5 : decode cX1_addTo 5 = .ok (.iload 5, 2) := by decide +kernel
theorem dX1_addTo_7 : decode cX1_addTo 7 = .ok (.bipush 8, 2) := by decide +kernel
theorem dX1_addTo_9 : decode cX1_addTo 9 = .ok (.if_icmp .ge 33, 3) := by decide +kernel
theorem dX1_addTo_12 : decode cX1_addTo 12 = .ok (.iload 5, 2) := by decide +kernel
theorem dX1_addTo_14 : decode cX1_addTo 14 = .ok (.aload_n 0, 1) := by decide +kernel
theorem dX1_addTo_15 : decode cX1_addTo 15 = .ok (.getfield 18, 3) := by decide +kernel
theorem dX1_addTo_18 : decode cX1_addTo 18 = .ok (.if_icmp .ge 24, 3) := by decide +kernel
theorem dX1_addTo_21 : decode cX1_addTo 21 = .ok (.ldc2_w 35, 3) := by decide +kernel
theorem dX1_addTo_24 : decode cX1_addTo 24 = .ok (.lload_n 3, 1) := by decide +kernel
theorem dX1_addTo_25 : decode cX1_addTo 25 = .ok (.lmul, 1) := by decide +kernel
theorem dX1_addTo_26 : decode cX1_addTo 26 = .ok (.aload_n 0, 1) := by decide +kernel
theorem dX1_addTo_27 : decode cX1_addTo 27 = .ok (.getfield 9, 3) := by decide +kernel
theorem dX1_addTo_30 : decode cX1_addTo 30 = .ok (.iload 5, 2) := by decide +kernel
theorem dX1_addTo_32 : decode cX1_addTo 32 = .ok (.iaload, 1) := by decide +kernel
theorem dX1_addTo_33 : decode cX1_addTo 33 = .ok (.i2l, 1) := by decide +kernel
theorem dX1_addTo_34 : decode cX1_addTo 34 = .ok (.ladd, 1) := by decide +kernel
theorem dX1_addTo_35 : decode cX1_addTo 35 = .ok (.lstore_n 3, 1) := by decide +kernel
theorem dX1_addTo_36 : decode cX1_addTo 36 = .ok (.iinc 5 1, 3) := by decide +kernel
theorem dX1_addTo_39 : decode cX1_addTo 39 = .ok (.goto (-34), 3) := by decide +kernel
theorem dX1_addTo_42 : decode cX1_addTo 42 = .ok (.lload_n 3, 1) := by decide +kernel
theorem dX1_addTo_43 : decode cX1_addTo 43 = .ok (.lreturn, 1) := by decide +kernel
theorem dX2_init_0 : decode cX2_init 0 = .ok (.aload_n 0, 1) := by decide +kernel
theorem dX2_init_1 : decode cX2_init 1 = .ok (.invokespecial 3, 3) := by decide +kernel
theorem dX2_init_4 : decode cX2_init 4 = .ok (.aload_n 0, 1) := by decide +kernel
theorem dX2_init_5 : decode cX2_init 5 = .ok (.iconst (-1), 1) := by decide +kernel
theorem dX2_init_6 : decode cX2_init 6 = .ok (.putfield 9, 3) := by decide +kernel
theorem dX2_init_9 : decode cX2_init 9 = .ok (.aload_n 0, 1) := by decide +kernel
theorem dX2_init_10 : decode cX2_init 10 = .ok (.iconst (-1), 1) := by decide +kernel
theorem dX2_init_11 : decode cX2_init 11 = .ok (.putfield 15, 3) := by decide +kernel
theorem dX2_init_14 : decode cX2_init 14 = .ok (.aload_n 0, 1) := by decide +kernel
theorem dX2_init_15 : decode cX2_init 15 = .ok (.bipush 32, 2) := by decide +kernel
theorem dX2_init_17 : decode cX2_init 17 = .ok (.putfield 18, 3) := by decide +kernel
theorem dX2_init_20 : decode cX2_init 20 = .ok (.aload_n 0, 1) := by decide +kernel
theorem dX2_init_21 : decode cX2_init 21 = .ok (.aload_n 1, 1) := by decide +kernel
theorem dX2_init_22 : decode cX2_init 22 = .ok (.putfield 22, 3) := by decide +kernel
theorem dX2_init_25 : decode cX2_init 25 = .ok (.return_, 1) := by decide +kernel
theorem dX2_putIce_0 : decode cX2_putIce 0 = .ok (.aload_n 0, 1) := by decide +kernel
theorem dX2_putIce_1 : decode cX2_putIce 1 = .ok (.iload_n 1, 1) := by decide +kernel
theorem dX2_putIce_2 : decode cX2_putIce 2 = .ok (.putfield 9, 3) := by decide +kernel
theorem dX2_putIce_5 : decode cX2_putIce 5 = .ok (.aload_n 0, 1) := by decide +kernel
theorem dX2_putIce_6 : decode cX2_putIce 6 = .ok (.bipush 32, 2) := by decide +kernel
theorem dX2_putIce_8 : decode cX2_putIce 8 = .ok (.putfield 18, 3) := by decide +kernel
theorem dX2_putIce_11 : decode cX2_putIce 11 = .ok (.return_, 1) := by decide +kernel
theorem dX2_putSteam_0 : decode cX2_putSteam 0 = .ok (.aload_n 0, 1) := by decide +kernel
theorem dX2_putSteam_1 : decode cX2_putSteam 1 = .ok (.iload_n 1, 1) := by decide +kernel
theorem dX2_putSteam_2 : decode cX2_putSteam 2 = .ok (.putfield 15, 3) := by decide +kernel
theorem dX2_putSteam_5 : decode cX2_putSteam 5 = .ok (.aload_n 0, 1) := by decide +kernel
theorem dX2_putSteam_6 : decode cX2_putSteam 6 = .ok (.iload_n 2, 1) := by decide +kernel
theorem dX2_putSteam_7 : decode cX2_putSteam 7 = .ok (.putfield 26, 3) := by decide +kernel
theorem dX2_putSteam_10 : decode cX2_putSteam 10 = .ok (.aload_n 0, 1) := by decide +kernel
theorem dX2_putSteam_11 : decode cX2_putSteam 11 = .ok (.bipush 32, 2) := by decide +kernel
theorem dX2_putSteam_13 : decode cX2_putSteam 13 = .ok (.putfield 18, 3) := by decide +kernel
theorem dX2_putSteam_16 : decode cX2_putSteam 16 = .ok (.return_, 1) := by decide +kernel
theorem dX2_hasUnlikePoints_0 : decode cX2_hasUnlikePoints 0 = .ok (.aload_n 0, 1) := by decide +kernel
theorem dX2_hasUnlikePoints_1 : decode cX2_hasUnlikePoints 1 = .ok (.getfield 9, 3) := by decide +kernel
theorem dX2_hasUnlikePoints_4 : decode cX2_hasUnlikePoints 4 = .ok (.iconst (-1), 1) := by decide +kernel
theorem dX2_hasUnlikePoints_5 : decode cX2_hasUnlikePoints 5 = .ok (.if_icmp .eq 26, 3) := by decide +kernel
theorem dX2_hasUnlikePoints_8 : decode cX2_hasUnlikePoints 8 = .ok (.aload_n 0, 1) := by decide +kernel
theorem dX2_hasUnlikePoints_9 : decode cX2_hasUnlikePoints 9 = .ok (.getfield 15, 3) := by decide +kernel
theorem dX2_hasUnlikePoints_12 : decode cX2_hasUnlikePoints 12 = .ok (.iconst (-1), 1) := by decide +kernel
theorem dX2_hasUnlikePoints_13 : decode cX2_hasUnlikePoints 13 = .ok (.if_icmp .eq 18, 3) := by decide +kernel
theorem dX2_hasUnlikePoints_16 : decode cX2_hasUnlikePoints 16 = .ok (.aload_n 0, 1) := by decide +kernel
theorem dX2_hasUnlikePoints_17 : decode cX2_hasUnlikePoints 17 = .ok (.getfield 9, 3) := by decide +kernel
theorem dX2_hasUnlikePoints_20 : decode cX2_hasUnlikePoints 20 = .ok (.aload_n 0, 1) := by decide +kernel
theorem dX2_hasUnlikePoints_21 : decode cX2_hasUnlikePoints 21 = .ok (.getfield 15, 3) := by decide +kernel
theorem dX2_hasUnlikePoints_24 : decode cX2_hasUnlikePoints 24 = .ok (.if_icmp .eq 7, 3) := by decide +kernel
theorem dX2_hasUnlikePoints_27 : decode cX2_hasUnlikePoints 27 = .ok (.iconst 1, 1) := by decide +kernel
theorem dX2_hasUnlikePoints_28 : decode cX2_hasUnlikePoints 28 = .ok (.goto 4, 3) := by decide +kernel
theorem dX2_hasUnlikePoints_31 : decode cX2_hasUnlikePoints 31 = .ok (.iconst 0, 1) := by decide +kernel
theorem dX2_hasUnlikePoints_32 : decode cX2_hasUnlikePoints 32 = .ok (.ireturn, 1) := by decide +kernel
theorem dX2_placesBetween_0 : decode cX2_placesBetween 0 = .ok (.aload_n 0, 1) := by decide +kernel
theorem dX2_placesBetween_1 : decode cX2_placesBetween 1 = .ok (.getfield 15, 3) := by decide +kernel
theorem dX2_placesBetween_4 : decode cX2_placesBetween 4 = .ok (.aload_n 0, 1) := by decide +kernel
theorem dX2_placesBetween_5 : decode cX2_placesBetween 5 = .ok (.getfield 9, 3) := by decide +kernel
theorem dX2_placesBetween_8 : decode cX2_placesBetween 8 = .ok (.isub, 1) := by decide +kernel
theorem dX2_placesBetween_9 : decode cX2_placesBetween 9 = .ok (.ireturn, 1) := by decide +kernel
set_option maxRecDepth 20000 in
theorem ggX2_readingAt_X2_farAboveIce : GoodIn wsX2_readingAt wsX2_farAboveIce := goodIn_r _ [7, 8, 9, 10, 11, 12, 13, 14, 15, 16, 17, 18, 19, 20, 21, 22, 23, 24, 25, 26, 27, 28, 29, 30, 31, 32, 33] (by decide +kernel) (by decide +kernel)
set_option maxRecDepth 20000 in
theorem gX2_readingAt_X2_farAboveIce : GoodIn wsX2_readingAt (wsV RX2 29 RX2 yX2_farAboveIce wsX2_farAboveIce) := goodIn_app (goodIn_of _ (by decide +kernel)) ggX2_readingAt_X2_farAboveIce
theorem dX2_readingAt_0 : decode cX2_readingAt 0 = .ok (.aload_n 0, 1) := by decide +kernel
theorem dX2_readingAt_1 : decode cX2_readingAt 1 = .ok (.aload_n 0, 1) := by decide +kernel
theorem dX2_readingAt_2 : decode cX2_readingAt 2 = .ok (.getfield 15, 3) := by decide +kernel
theorem dX2_readingAt_5 : decode cX2_readingAt 5 = .ok (.invokevirtual 29, 3) := by decide +kernel
theorem dX2_readingAt_8 : decode cX2_readingAt 8 = .ok (.istore_n 2, 1) := by decide +kernel
theorem dX2_readingAt_9 : decode cX2_readingAt 9 = .ok (.iload_n 2, 1) := by decide +kernel
theorem dX2_readingAt_10 : decode cX2_readingAt 10 = .ok (.ifCond .ne 5, 3) := by decide +kernel
theorem dX2_readingAt_13 : decode cX2_readingAt 13 = .ok (.iconst 0, 1) := by decide +kernel
theorem dX2_readingAt_14 : decode cX2_readingAt 14 = .ok (.ireturn, 1) := by decide +kernel
theorem dX2_readingAt_15 : decode cX2_readingAt 15 = .ok (.aload_n 0, 1) := by decide +kernel
theorem dX2_readingAt_16 : decode cX2_readingAt 16 = .ok (.getfield 26, 3) := by decide +kernel
theorem dX2_readingAt_19 : decode cX2_readingAt 19 = .ok (.aload_n 0, 1) := by decide +kernel
theorem dX2_readingAt_20 : decode cX2_readingAt 20 = .ok (.iload_n 1, 1) := by decide +kernel
theorem dX2_readingAt_21 : decode cX2_readingAt 21 = .ok (.invokevirtual 29, 3) := by decide +kernel
theorem dX2_readingAt_24 : decode cX2_readingAt 24 = .ok (.imul, 1) := by decide +kernel
theorem dX2_readingAt_25 : decode cX2_readingAt 25 = .ok (.iload_n 2, 1) := by decide +kernel
theorem dX2_readingAt_26 : decode cX2_readingAt 26 = .ok (.idiv, 1) := by decide +kernel
theorem dX2_readingAt_27 : decode cX2_readingAt 27 = .ok (.ireturn, 1) := by decide +kernel
set_option maxRecDepth 20000 in
theorem ggX2_farAboveIce_X3_volumeUpTo : GoodIn wsX2_farAboveIce wsX3_volumeUpTo := goodIn_r _ [8, 9, 10, 11, 7, 12, 13, 14, 15, 16, 17, 18, 19, 25, 26] (by decide +kernel) (by decide +kernel)
set_option maxRecDepth 20000 in
theorem gX2_farAboveIce_X3_volumeUpTo : GoodIn wsX2_farAboveIce (wsV RX2 33 RX3 yX3_volumeUpTo wsX3_volumeUpTo) := goodIn_app (goodIn_of _ (by decide +kernel)) ggX2_farAboveIce_X3_volumeUpTo
theorem dX2_farAboveIce_0 : decode cX2_farAboveIce 0 = .ok (.aload_n 0, 1) := by decide +kernel
theorem dX2_farAboveIce_1 : decode cX2_farAboveIce 1 = .ok (.getfield 18, 3) := by decide +kernel
theorem dX2_farAboveIce_4 : decode cX2_farAboveIce 4 = .ok (.bipush 118, 2) := by decide +kernel
theorem dX2_farAboveIce_6 : decode cX2_farAboveIce 6 = .ok (.if_icmp .ne 24, 3) := by decide +kernel
theorem dX2_farAboveIce_9 : decode cX2_farAboveIce 9 = .ok (.aload_n 0, 1) := by decide +kernel
theorem dX2_farAboveIce_10 : decode cX2_farAboveIce 10 = .ok (.getfield 22, 3) := by decide +kernel
theorem dX2_farAboveIce_13 : decode cX2_farAboveIce 13 = .ok (.iload_n 1, 1) := by decide +kernel
theorem dX2_farAboveIce_14 : decode cX2_farAboveIce 14 = .ok (.invokevirtual 33, 3) := by decide +kernel
theorem dX2_farAboveIce_17 : decode cX2_farAboveIce 17 = .ok (.aload_n 0, 1) := by decide +kernel
theorem dX2_farAboveIce_18 : decode cX2_farAboveIce 18 = .ok (.getfield 22, 3) := by decide +kernel
theorem dX2_farAboveIce_21 : decode cX2_farAboveIce 21 = .ok (.aload_n 0, 1) := by decide +kernel
theorem dX2_farAboveIce_22 : decode cX2_farAboveIce 22 = .ok (.getfield 9, 3) := by decide +kernel
theorem dX2_farAboveIce_25 : decode cX2_farAboveIce 25 = .ok (.invokevirtual 33, 3) := by decide +kernel
theorem dX2_farAboveIce_28 : decode cX2_farAboveIce 28 = .ok (.isub, 1) := by decide +kernel
theorem dX2_farAboveIce_29 : decode cX2_farAboveIce 29 = .ok (.ireturn, 1) := by decide +kernel
theorem dX2_farAboveIce_30 : decode cX2_farAboveIce 30 = .ok (.iload_n 1, 1) := by decide +kernel
theorem dX2_farAboveIce_31 : decode cX2_farAboveIce 31 = .ok (.aload_n 0, 1) := by decide +kernel
theorem dX2_farAboveIce_32 : decode cX2_farAboveIce 32 = .ok (.getfield 9, 3) := by decide +kernel
theorem dX2_farAboveIce_35 : decode cX2_farAboveIce 35 = .ok (.isub, 1) := by decide +kernel
theorem dX2_farAboveIce_36 : decode cX2_farAboveIce 36 = .ok (.ireturn, 1) := by decide +kernel
theorem dX3_init_0 : decode cX3_init 0 = .ok (.aload_n 0, 1) := by decide +kernel
theorem dX3_init_1 : decode cX3_init 1 = .ok (.invokespecial 3, 3) := by decide +kernel
theorem dX3_init_4 : decode cX3_init 4 = .ok (.aload_n 0, 1) := by decide +kernel
theorem dX3_init_5 : decode cX3_init 5 = .ok (.bipush 20, 2) := by decide +kernel
theorem dX3_init_7 : decode cX3_init 7 = .ok (.newarray .int, 2) := by decide +kernel
theorem dX3_init_9 : decode cX3_init 9 = .ok (.putfield 9, 3) := by decide +kernel
theorem dX3_init_12 : decode cX3_init 12 = .ok (.iconst 0, 1) := by decide +kernel
theorem dX3_init_13 : decode cX3_init 13 = .ok (.istore_n 3, 1) := by decide +kernel
theorem dX3_init_14 : decode cX3_init 14 = .ok (.iload_n 3, 1) := by decide +kernel
theorem dX3_init_15 : decode cX3_init 15 = .ok (.aload_n 0, 1) := by decide +kernel
theorem dX3_init_16 : decode cX3_init 16 = .ok (.getfield 9, 3) := by decide +kernel
theorem dX3_init_19 : decode cX3_init 19 = .ok (.arraylength, 1) := by decide +kernel
theorem dX3_init_20 : decode cX3_init 20 = .ok (.if_icmp .ge 29, 3) := by decide +kernel
theorem dX3_init_23 : decode cX3_init 23 = .ok (.aload_n 0, 1) := by decide +kernel
theorem dX3_init_24 : decode cX3_init 24 = .ok (.getfield 9, 3) := by decide +kernel
theorem dX3_init_27 : decode cX3_init 27 = .ok (.iload_n 3, 1) := by decide +kernel
theorem dX3_init_28 : decode cX3_init 28 = .ok (.iconst 1, 1) := by decide +kernel
theorem dX3_init_29 : decode cX3_init 29 = .ok (.bipush 60, 2) := by decide +kernel
theorem dX3_init_31 : decode cX3_init 31 = .ok (.iload_n 1, 1) := by decide +kernel
theorem dX3_init_32 : decode cX3_init 32 = .ok (.iload_n 3, 1) := by decide +kernel
theorem dX3_init_33 : decode cX3_init 33 = .ok (.iload_n 2, 1) := by decide +kernel
theorem dX3_init_34 : decode cX3_init 34 = .ok (.imul, 1) := by decide +kernel
theorem dX3_init_35 : decode cX3_init 35 = .ok (.iadd, 1) := by decide +kernel
theorem dX3_init_36 : decode cX3_init 36 = .ok (.invokestatic 15, 3) := by decide +kernel
theorem dX3_init_39 : decode cX3_init 39 = .ok (.invokestatic 21, 3) := by decide +kernel
theorem dX3_init_42 : decode cX3_init 42 = .ok (.iastore, 1) := by decide +kernel
theorem dX3_init_43 : decode cX3_init 43 = .ok (.iinc 3 1, 3) := by decide +kernel
theorem dX3_init_46 : decode cX3_init 46 = .ok (.goto (-32), 3) := by decide +kernel
theorem dX3_init_49 : decode cX3_init 49 = .ok (.return_, 1) := by decide +kernel
theorem dX3_boreOf_0 : decode cX3_boreOf 0 = .ok (.iload_n 1, 1) := by decide +kernel
theorem dX3_boreOf_1 : decode cX3_boreOf 1 = .ok (.ifCond .lt 21, 3) := by decide +kernel
theorem dX3_boreOf_4 : decode cX3_boreOf 4 = .ok (.iload_n 1, 1) := by decide +kernel
theorem dX3_boreOf_5 : decode cX3_boreOf 5 = .ok (.aload_n 0, 1) := by decide +kernel
theorem dX3_boreOf_6 : decode cX3_boreOf 6 = .ok (.getfield 9, 3) := by decide +kernel
theorem dX3_boreOf_9 : decode cX3_boreOf 9 = .ok (.arraylength, 1) := by decide +kernel
theorem dX3_boreOf_10 : decode cX3_boreOf 10 = .ok (.if_icmp .ge 12, 3) := by decide +kernel
theorem dX3_boreOf_13 : decode cX3_boreOf 13 = .ok (.aload_n 0, 1) := by decide +kernel
theorem dX3_boreOf_14 : decode cX3_boreOf 14 = .ok (.getfield 9, 3) := by decide +kernel
theorem dX3_boreOf_17 : decode cX3_boreOf 17 = .ok (.iload_n 1, 1) := by decide +kernel
theorem dX3_boreOf_18 : decode cX3_boreOf 18 = .ok (.iaload, 1) := by decide +kernel
theorem dX3_boreOf_19 : decode cX3_boreOf 19 = .ok (.goto 4, 3) := by decide +kernel
theorem dX3_boreOf_22 : decode cX3_boreOf 22 = .ok (.iconst 0, 1) := by decide +kernel
theorem dX3_boreOf_23 : decode cX3_boreOf 23 = .ok (.ireturn, 1) := by decide +kernel
theorem dX3_setBore_0 : decode cX3_setBore 0 = .ok (.iload_n 1, 1) := by decide +kernel
theorem dX3_setBore_1 : decode cX3_setBore 1 = .ok (.ifCond .lt 19, 3) := by decide +kernel
theorem dX3_setBore_4 : decode cX3_setBore 4 = .ok (.iload_n 1, 1) := by decide +kernel
theorem dX3_setBore_5 : decode cX3_setBore 5 = .ok (.aload_n 0, 1) := by decide +kernel
theorem dX3_setBore_6 : decode cX3_setBore 6 = .ok (.getfield 9, 3) := by decide +kernel
theorem dX3_setBore_9 : decode cX3_setBore 9 = .ok (.arraylength, 1) := by decide +kernel
theorem dX3_setBore_10 : decode cX3_setBore 10 = .ok (.if_icmp .ge 10, 3) := by decide +kernel
theorem dX3_setBore_13 : decode cX3_setBore 13 = .ok (.aload_n 0, 1) := by decide +kernel
theorem dX3_setBore_14 : decode cX3_setBore 14 = .ok (.getfield 9, 3) := by decide +kernel
theorem dX3_setBore_17 : decode cX3_setBore 17 = .ok (.iload_n 1, 1) := by decide +kernel
theorem dX3_setBore_18 : decode cX3_setBore 18 = .ok (.iload_n 2, 1) := by decide +kernel
theorem dX3_setBore_19 : decode cX3_setBore 19 = .ok (.iastore, 1) := by decide +kernel
theorem dX3_setBore_20 : decode cX3_setBore 20 = .ok (.return_, 1) := by decide +kernel
set_option maxRecDepth 20000 in
theorem ggX3_volumeUpTo_X3_stepsBelow : GoodIn wsX3_volumeUpTo wsX3_stepsBelow := goodIn_r _ [5, 6, 7, 8, 9, 10, 11, 12] (by decide +kernel) (by decide +kernel)
set_option maxRecDepth 20000 in
theorem gX3_volumeUpTo_X3_stepsBelow : GoodIn wsX3_volumeUpTo (va_wsS RX3 24 yX3_stepsBelow wsX3_stepsBelow) := goodIn_app (goodIn_of _ (by decide +kernel)) ggX3_volumeUpTo_X3_stepsBelow
theorem dX3_volumeUpTo_0 : decode cX3_volumeUpTo 0 = .ok (.iconst 0, 1) := by decide +kernel
theorem dX3_volumeUpTo_1 : decode cX3_volumeUpTo 1 = .ok (.istore_n 2, 1) := by decide +kernel
theorem dX3_volumeUpTo_2 : decode cX3_volumeUpTo 2 = .ok (.iconst 0, 1) := by decide +kernel
theorem dX3_volumeUpTo_3 : decode cX3_volumeUpTo 3 = .ok (.istore_n 3, 1) := by decide +kernel
theorem dX3_volumeUpTo_4 : decode cX3_volumeUpTo 4 = .ok (.iload_n 3, 1) := by decide +kernel
theorem dX3_volumeUpTo_5 : decode cX3_volumeUpTo 5 = .ok (.aload_n 0, 1) := by decide +kernel
theorem dX3_volumeUpTo_6 : decode cX3_volumeUpTo 6 = .ok (.getfield 9, 3) := by decide +kernel
theorem dX3_volumeUpTo_9 : decode cX3_volumeUpTo 9 = .ok (.arraylength, 1) := by decide +kernel
theorem dX3_volumeUpTo_10 : decode cX3_volumeUpTo 10 = .ok (.if_icmp .ge 24, 3) := by decide +kernel
theorem dX3_volumeUpTo_13 : decode cX3_volumeUpTo 13 = .ok (.iload_n 2, 1) := by decide +kernel
theorem dX3_volumeUpTo_14 : decode cX3_volumeUpTo 14 = .ok (.aload_n 0, 1) := by decide +kernel
theorem dX3_volumeUpTo_15 : decode cX3_volumeUpTo 15 = .ok (.getfield 9, 3) := by decide +kernel
theorem dX3_volumeUpTo_18 : decode cX3_volumeUpTo 18 = .ok (.iload_n 3, 1) := by decide +kernel
theorem dX3_volumeUpTo_19 : decode cX3_volumeUpTo 19 = .ok (.iaload, 1) := by decide +kernel
theorem dX3_volumeUpTo_20 : decode cX3_volumeUpTo 20 = .ok (.iload_n 1, 1) := by decide +kernel
theorem dX3_volumeUpTo_21 : decode cX3_volumeUpTo 21 = .ok (.iload_n 3, 1) := by decide +kernel
theorem dX3_volumeUpTo_22 : decode cX3_volumeUpTo 22 = .ok (.invokestatic 24, 3) := by decide +kernel
theorem dX3_volumeUpTo_25 : decode cX3_volumeUpTo 25 = .ok (.imul, 1) := by decide +kernel
theorem dX3_volumeUpTo_26 : decode cX3_volumeUpTo 26 = .ok (.iadd, 1) := by decide +kernel
theorem dX3_volumeUpTo_27 : decode cX3_volumeUpTo 27 = .ok (.istore_n 2, 1) := by decide +kernel
theorem dX3_volumeUpTo_28 : decode cX3_volumeUpTo 28 = .ok (.iinc 3 1, 3) := by decide +kernel
theorem dX3_volumeUpTo_31 : decode cX3_volumeUpTo 31 = .ok (.goto (-27), 3) := by decide +kernel
theorem dX3_volumeUpTo_34 : decode cX3_volumeUpTo 34 = .ok (.iload_n 2, 1) := by decide +kernel
theorem dX3_volumeUpTo_35 : decode cX3_volumeUpTo 35 = .ok (.ireturn, 1) := by decide +kernel
set_option maxRecDepth 20000 in
theorem ggX3_firstPlaceHolding_X3_volumeUpTo : GoodIn wsX3_firstPlaceHolding wsX3_volumeUpTo := goodIn_r _ [5, 6, 7, 8, 4, 9, 10, 11, 12, 13, 14, 15, 16, 17, 18] (by decide +kernel) (by decide +kernel)
set_option maxRecDepth 20000 in
theorem gX3_firstPlaceHolding_X3_volumeUpTo : GoodIn wsX3_firstPlaceHolding (wsV RX3 27 RX3 yX3_volumeUpTo wsX3_volumeUpTo) := goodIn_app (goodIn_of _ (by decide +kernel)) ggX3_firstPlaceHolding_X3_volumeUpTo
theorem dX3_firstPlaceHolding_0 : decode cX3_firstPlaceHolding 0 = .ok (.iconst 0, 1) := by decide +kernel
theorem dX3_firstPlaceHolding_1 : decode cX3_firstPlaceHolding 1 = .ok (.istore_n 2, 1) := by decide +kernel
theorem dX3_firstPlaceHolding_2 : decode cX3_firstPlaceHolding 2 = .ok (.iload_n 2, 1) := by decide +kernel
theorem dX3_firstPlaceHolding_3 : decode cX3_firstPlaceHolding 3 = .ok (.sipush 200, 3) := by decide +kernel
theorem dX3_firstPlaceHolding_6 : decode cX3_firstPlaceHolding 6 = .ok (.if_icmp .gt 20, 3) := by decide +kernel
theorem dX3_firstPlaceHolding_9 : decode cX3_firstPlaceHolding 9 = .ok (.aload_n 0, 1) := by decide +kernel
theorem dX3_firstPlaceHolding_10 : decode cX3_firstPlaceHolding 10 = .ok (.iload_n 2, 1) := by decide +kernel
theorem dX3_firstPlaceHolding_11 : decode cX3_firstPlaceHolding 11 = .ok (.invokevirtual 27, 3) := by decide +kernel
theorem dX3_firstPlaceHolding_14 : decode cX3_firstPlaceHolding 14 = .ok (.iload_n 1, 1) := by decide +kernel
theorem dX3_firstPlaceHolding_15 : decode cX3_firstPlaceHolding 15 = .ok (.if_icmp .lt 5, 3) := by decide +kernel
theorem dX3_firstPlaceHolding_18 : decode cX3_firstPlaceHolding 18 = .ok (.iload_n 2, 1) := by decide +kernel
theorem dX3_firstPlaceHolding_19 : decode cX3_firstPlaceHolding 19 = .ok (.ireturn, 1) := by decide +kernel
theorem dX3_firstPlaceHolding_20 : decode cX3_firstPlaceHolding 20 = .ok (.iinc 2 1, 3) := by decide +kernel
theorem dX3_firstPlaceHolding_23 : decode cX3_firstPlaceHolding 23 = .ok (.goto (-21), 3) := by decide +kernel
theorem dX3_firstPlaceHolding_26 : decode cX3_firstPlaceHolding 26 = .ok (.iconst (-1), 1) := by decide +kernel
theorem dX3_firstPlaceHolding_27 : decode cX3_firstPlaceHolding 27 = .ok (.ireturn, 1) := by decide +kernel
set_option maxRecDepth 20000 in
theorem ggX3_lastPlaceWithin_X3_volumeUpTo : GoodIn wsX3_lastPlaceWithin wsX3_volumeUpTo := goodIn_r _ [5, 6, 7, 8, 4, 9, 10, 11, 12, 13, 14, 15, 16, 17, 18] (by decide +kernel) (by decide +kernel)
set_option maxRecDepth 20000 in
theorem gX3_lastPlaceWithin_X3_volumeUpTo : GoodIn wsX3_lastPlaceWithin (wsV RX3 27 RX3 yX3_volumeUpTo wsX3_volumeUpTo) := goodIn_app (goodIn_of _ (by decide +kernel)) ggX3_lastPlaceWithin_X3_volumeUpTo
theorem dX3_lastPlaceWithin_0 : decode cX3_lastPlaceWithin 0 = .ok (.lload_n 1, 1) := by decide +kernel
theorem dX3_lastPlaceWithin_1 : decode cX3_lastPlaceWithin 1 = .ok (.lconst 0, 1) := by decide +kernel
theorem dX3_lastPlaceWithin_2 : decode cX3_lastPlaceWithin 2 = .ok (.lcmp, 1) := by decide +kernel
theorem dX3_lastPlaceWithin_3 : decode cX3_lastPlaceWithin 3 = .ok (.ifCond .lt 16, 3) := by decide +kernel
theorem dX3_lastPlaceWithin_6 : decode cX3_lastPlaceWithin 6 = .ok (.lload_n 1, 1) := by decide +kernel
theorem dX3_lastPlaceWithin_7 : decode cX3_lastPlaceWithin 7 = .ok (.aload_n 0, 1) := by decide +kernel
theorem dX3_lastPlaceWithin_8 : decode cX3_lastPlaceWithin 8 = .ok (.sipush 200, 3) := by decide +kernel
theorem dX3_lastPlaceWithin_11 : decode cX3_lastPlaceWithin 11 = .ok (.invokevirtual 27, 3) := by decide +kernel
theorem dX3_lastPlaceWithin_14 : decode cX3_lastPlaceWithin 14 = .ok (.i2l, 1) := by decide +kernel
theorem dX3_lastPlaceWithin_15 : decode cX3_lastPlaceWithin 15 = .ok (.lcmp, 1) := by decide +kernel
theorem dX3_lastPlaceWithin_16 : decode cX3_lastPlaceWithin 16 = .ok (.ifCond .le 5, 3) := by decide +kernel
theorem dX3_lastPlaceWithin_19 : decode cX3_lastPlaceWithin 19 = .ok (.iconst (-1), 1) := by decide +kernel
theorem dX3_lastPlaceWithin_20 : decode cX3_lastPlaceWithin 20 = .ok (.ireturn, 1) := by decide +kernel
theorem dX3_lastPlaceWithin_21 : decode cX3_lastPlaceWithin 21 = .ok (.iconst 0, 1) := by decide +kernel
theorem dX3_lastPlaceWithin_22 : decode cX3_lastPlaceWithin 22 = .ok (.istore_n 3, 1) := by decide +kernel
theorem dX3_lastPlaceWithin_23 : decode cX3_lastPlaceWithin 23 = .ok (.iload_n 3, 1) := by decide +kernel
theorem dX3_lastPlaceWithin_24 : decode cX3_lastPlaceWithin 24 = .ok (.sipush 200, 3) := by decide +kernel
theorem dX3_lastPlaceWithin_27 : decode cX3_lastPlaceWithin 27 = .ok (.if_icmp .ge 22, 3) := by decide +kernel
theorem dX3_lastPlaceWithin_30 : decode cX3_lastPlaceWithin 30 = .ok (.aload_n 0, 1) := by decide +kernel
theorem dX3_lastPlaceWithin_31 : decode cX3_lastPlaceWithin 31 = .ok (.iload_n 3, 1) := by decide +kernel
theorem dX3_lastPlaceWithin_32 : decode cX3_lastPlaceWithin 32 = .ok (.iconst 1, 1) := by decide +kernel
theorem dX3_lastPlaceWithin_33 : decode cX3_lastPlaceWithin 33 = .ok (.iadd, 1) := by decide +kernel
theorem dX3_lastPlaceWithin_34 : decode cX3_lastPlaceWithin 34 = .ok (.invokevirtual 27, 3) := by decide +kernel
theorem dX3_lastPlaceWithin_37 : decode cX3_lastPlaceWithin 37 = .ok (.i2l, 1) := by decide +kernel
theorem dX3_lastPlaceWithin_38 : decode cX3_lastPlaceWithin 38 = .ok (.lload_n 1, 1) := by decide +kernel
theorem dX3_lastPlaceWithin_39 : decode cX3_lastPlaceWithin 39 = .ok (.lcmp, 1) := by decide +kernel
theorem dX3_lastPlaceWithin_40 : decode cX3_lastPlaceWithin 40 = .ok (.ifCond .gt 9, 3) := by decide +kernel
theorem dX3_lastPlaceWithin_43 : decode cX3_lastPlaceWithin 43 = .ok (.iinc 3 1, 3) := by decide +kernel
theorem dX3_lastPlaceWithin_46 : decode cX3_lastPlaceWithin 46 = .ok (.goto (-23), 3) := by decide +kernel
theorem dX3_lastPlaceWithin_49 : decode cX3_lastPlaceWithin 49 = .ok (.iload_n 3, 1) := by decide +kernel
theorem dX3_lastPlaceWithin_50 : decode cX3_lastPlaceWithin 50 = .ok (.ireturn, 1) := by decide +kernel
set_option maxRecDepth 20000 in
theorem ggX3_widestSection_X3_boreOf : GoodIn wsX3_widestSection wsX3_boreOf := goodIn_r _ [6, 1, 7, 8] (by decide +kernel) (by decide +kernel)
set_option maxRecDepth 20000 in
theorem gX3_widestSection_X3_boreOf : GoodIn wsX3_widestSection (wsV RX3 31 RX3 yX3_boreOf wsX3_boreOf) := goodIn_app (goodIn_of _ (by decide +kernel)) ggX3_widestSection_X3_boreOf
theorem dX3_widestSection_0 : decode cX3_widestSection 0 = .ok (.iconst 0, 1) := by decide +kernel
theorem dX3_widestSection_1 : decode cX3_widestSection 1 = .ok (.istore_n 1, 1) := by decide +kernel
theorem dX3_widestSection_2 : decode cX3_widestSection 2 = .ok (.iconst 1, 1) := by decide +kernel
theorem dX3_widestSection_3 : decode cX3_widestSection 3 = .ok (.istore_n 2, 1) := by decide +kernel
theorem dX3_widestSection_4 : decode cX3_widestSection 4 = .ok (.iload_n 2, 1) := by decide +kernel
theorem dX3_widestSection_5 : decode cX3_widestSection 5 = .ok (.aload_n 0, 1) := by decide +kernel
theorem dX3_widestSection_6 : decode cX3_widestSection 6 = .ok (.getfield 9, 3) := by decide +kernel
theorem dX3_widestSection_9 : decode cX3_widestSection 9 = .ok (.arraylength, 1) := by decide +kernel
theorem dX3_widestSection_10 : decode cX3_widestSection 10 = .ok (.if_icmp .ge 25, 3) := by decide +kernel
theorem dX3_widestSection_13 : decode cX3_widestSection 13 = .ok (.aload_n 0, 1) := by decide +kernel
theorem dX3_widestSection_14 : decode cX3_widestSection 14 = .ok (.getfield 9, 3) := by decide +kernel
theorem dX3_widestSection_17 : decode cX3_widestSection 17 = .ok (.iload_n 2, 1) := by decide +kernel
theorem dX3_widestSection_18 : decode cX3_widestSection 18 = .ok (.iaload, 1) := by decide +kernel
theorem dX3_widestSection_19 : decode cX3_widestSection 19 = .ok (.aload_n 0, 1) := by decide +kernel
theorem dX3_widestSection_20 : decode cX3_widestSection 20 = .ok (.iload_n 1, 1) := by decide +kernel
theorem dX3_widestSection_21 : decode cX3_widestSection 21 = .ok (.invokevirtual 31, 3) := by decide +kernel
theorem dX3_widestSection_24 : decode cX3_widestSection 24 = .ok (.if_icmp .le 5, 3) := by decide +kernel
theorem dX3_widestSection_27 : decode cX3_widestSection 27 = .ok (.iload_n 2, 1) := by decide +kernel
theorem dX3_widestSection_28 : decode cX3_widestSection 28 = .ok (.istore_n 1, 1) := by decide +kernel
theorem dX3_widestSection_29 : decode cX3_widestSection 29 = .ok (.iinc 2 1, 3) := by decide +kernel
theorem dX3_widestSection_32 : decode cX3_widestSection 32 = .ok (.goto (-28), 3) := by decide +kernel
theorem dX3_widestSection_35 : decode cX3_widestSection 35 = .ok (.iload_n 1, 1) := by decide +kernel
theorem dX3_widestSection_36 : decode cX3_widestSection 36 = .ok (.ireturn, 1) := by decide +kernel
set_option maxRecDepth 20000 in
theorem ggX3_clinging_X3_stepsBelow : GoodIn wsX3_clinging wsX3_stepsBelow := goodIn_r _ [9, 2, 3, 4, 5, 10, 11, 12] (by decide +kernel) (by decide +kernel)
set_option maxRecDepth 20000 in
theorem gX3_clinging_X3_stepsBelow : GoodIn wsX3_clinging (va_wsS RX3 24 yX3_stepsBelow wsX3_stepsBelow) := goodIn_app (goodIn_of _ (by decide +kernel)) ggX3_clinging_X3_stepsBelow
theorem dX3_clinging_0 : decode cX3_clinging 0 = .ok (.iconst 0, 1) := by decide +kernel
theorem dX3_clinging_1 : decode cX3_clinging 1 = .ok (.istore 4, 2) := by decide +kernel
theorem dX3_clinging_3 : decode cX3_clinging 3 = .ok (.iconst 0, 1) := by decide +kernel
theorem dX3_clinging_4 : decode cX3_clinging 4 = .ok (.istore 5, 2) := by decide +kernel
theorem dX3_clinging_6 : decode cX3_clinging 6 = .ok (.iload 5, 2) := by decide +kernel
theorem dX3_clinging_8 : decode cX3_clinging 8 = .ok (.aload_n 0, 1) := by decide +kernel
theorem dX3_clinging_9 : decode cX3_clinging 9 = .ok (.getfield 9, 3) := by decide +kernel
theorem dX3_clinging_12 : decode cX3_clinging 12 = .ok (.arraylength, 1) := by decide +kernel
theorem dX3_clinging_13 : decode cX3_clinging 13 = .ok (.if_icmp .ge 43, 3) := by decide +kernel
theorem dX3_clinging_16 : decode cX3_clinging 16 = .ok (.iload_n 2, 1) := by decide +kernel
theorem dX3_clinging_17 : decode cX3_clinging 17 = .ok (.iload 5, 2) := by decide +kernel
theorem dX3_clinging_19 : decode cX3_clinging 19 = .ok (.invokestatic 24, 3) := by decide +kernel
theorem dX3_clinging_22 : decode cX3_clinging 22 = .ok (.iload_n 1, 1) := by decide +kernel
theorem dX3_clinging_23 : decode cX3_clinging 23 = .ok (.iload 5, 2) := by decide +kernel
theorem dX3_clinging_25 : decode cX3_clinging 25 = .ok (.invokestatic 24, 3) := by decide +kernel
theorem dX3_clinging_28 : decode cX3_clinging 28 = .ok (.isub, 1) := by decide +kernel
theorem dX3_clinging_29 : decode cX3_clinging 29 = .ok (.istore 6, 2) := by decide +kernel
theorem dX3_clinging_31 : decode cX3_clinging 31 = .ok (.iload 4, 2) := by decide +kernel
theorem dX3_clinging_33 : decode cX3_clinging 33 = .ok (.iload 6, 2) := by decide +kernel
theorem dX3_clinging_35 : decode cX3_clinging 35 = .ok (.iload_n 3, 1) := by decide +kernel
theorem dX3_clinging_36 : decode cX3_clinging 36 = .ok (.aload_n 0, 1) := by decide +kernel
theorem dX3_clinging_37 : decode cX3_clinging 37 = .ok (.getfield 9, 3) := by decide +kernel
theorem dX3_clinging_40 : decode cX3_clinging 40 = .ok (.iload 5, 2) := by decide +kernel
theorem dX3_clinging_42 : decode cX3_clinging 42 = .ok (.iaload, 1) := by decide +kernel
theorem dX3_clinging_43 : decode cX3_clinging 43 = .ok (.invokestatic 15, 3) := by decide +kernel
theorem dX3_clinging_46 : decode cX3_clinging 46 = .ok (.imul, 1) := by decide +kernel
theorem dX3_clinging_47 : decode cX3_clinging 47 = .ok (.iadd, 1) := by decide +kernel
theorem dX3_clinging_48 : decode cX3_clinging 48 = .ok (.istore 4, 2) := by decide +kernel
theorem dX3_clinging_50 : decode cX3_clinging 50 = .ok (.iinc 5 1, 3) := by decide +kernel
theorem dX3_clinging_53 : decode cX3_clinging 53 = .ok (.goto (-47), 3) := by decide +kernel
theorem dX3_clinging_56 : decode cX3_clinging 56 = .ok (.iload 4, 2) := by decide +kernel
theorem dX3_clinging_58 : decode cX3_clinging 58 = .ok (.ireturn, 1) := by decide +kernel
theorem dX3_stepsBelow_0 : decode cX3_stepsBelow 0 = .ok (.iconst 0, 1) := by decide +kernel
theorem dX3_stepsBelow_1 : decode cX3_stepsBelow 1 = .ok (.bipush 10, 2) := by decide +kernel
theorem dX3_stepsBelow_3 : decode cX3_stepsBelow 3 = .ok (.iload_n 0, 1) := by decide +kernel
theorem dX3_stepsBelow_4 : decode cX3_stepsBelow 4 = .ok (.iload_n 1, 1) := by decide +kernel
theorem dX3_stepsBelow_5 : decode cX3_stepsBelow 5 = .ok (.bipush 10, 2) := by decide +kernel
theorem dX3_stepsBelow_7 : decode cX3_stepsBelow 7 = .ok (.imul, 1) := by decide +kernel
theorem dX3_stepsBelow_8 : decode cX3_stepsBelow 8 = .ok (.isub, 1) := by decide +kernel
theorem dX3_stepsBelow_9 : decode cX3_stepsBelow 9 = .ok (.invokestatic 15, 3) := by decide +kernel
theorem dX3_stepsBelow_12 : decode cX3_stepsBelow 12 = .ok (.invokestatic 21, 3) := by decide +kernel
theorem dX3_stepsBelow_15 : decode cX3_stepsBelow 15 = .ok (.ireturn, 1) := by decide +kernel
theorem dX4_init_0 : decode cX4_init 0 = .ok (.aload_n 0, 1) := by decide +kernel
theorem dX4_init_1 : decode cX4_init 1 = .ok (.invokespecial 3, 3) := by decide +kernel
theorem dX4_init_4 : decode cX4_init 4 = .ok (.aload_n 0, 1) := by decide +kernel
theorem dX4_init_5 : decode cX4_init 5 = .ok (.bipush 8, 2) := by decide +kernel
theorem dX4_init_7 : decode cX4_init 7 = .ok (.anewarray 9, 3) := by decide +kernel
theorem dX4_init_10 : decode cX4_init 10 = .ok (.putfield 11, 3) := by decide +kernel
theorem dX4_init_13 : decode cX4_init 13 = .ok (.aload_n 0, 1) := by decide +kernel
theorem dX4_init_14 : decode cX4_init 14 = .ok (.bipush 6, 2) := by decide +kernel
theorem dX4_init_16 : decode cX4_init 16 = .ok (.anewarray 15, 3) := by decide +kernel
theorem dX4_init_19 : decode cX4_init 19 = .ok (.putfield 17, 3) := by decide +kernel
theorem dX4_init_22 : decode cX4_init 22 = .ok (.aload_n 0, 1) := by decide +kernel
theorem dX4_init_23 : decode cX4_init 23 = .ok (.sipush 200, 3) := by decide +kernel
theorem dX4_init_26 : decode cX4_init 26 = .ok (.putfield 21, 3) := by decide +kernel
theorem dX4_init_29 : decode cX4_init 29 = .ok (.return_, 1) := by decide +kernel
set_option maxRecDepth 20000 in
theorem ggX4_draw_X4_demandRange : GoodIn wsX4_draw wsX4_demandRange := goodIn_ca (goodIn_r _ [11, 12, 13] (by decide +kernel) (by decide +kernel)) (goodIn_sub (fun _ h => List.mem_cons_of_mem _ (List.mem_append_right _ h)) (by decide +kernel))
set_option maxRecDepth 20000 in
theorem gX4_draw_X4_demandRange : GoodIn wsX4_draw (va_wsS RX4 25 yX4_demandRange wsX4_demandRange) := goodIn_app (goodIn_of _ (by decide +kernel)) ggX4_draw_X4_demandRange
set_option maxRecDepth 20000 in
theorem ggX4_draw_X3_init : GoodIn wsX4_draw wsX3_init := goodIn_r _ [16, 17, 18, 19, 20, 21, 22, 23, 24, 25, 26, 27, 28, 38, 39] (by decide +kernel) (by decide +kernel)
set_option maxRecDepth 20000 in
theorem gX4_draw_X3_init : GoodIn wsX4_draw (wsX3_init) := ggX4_draw_X3_init
theorem dX4_draw_0 : decode cX4_draw 0 = .ok (.iload_n 1, 1) := by decide +kernel
theorem dX4_draw_1 : decode cX4_draw 1 = .ok (.iconst 1, 1) := by decide +kernel
theorem dX4_draw_2 : decode cX4_draw 2 = .ok (.bipush 40, 2) := by decide +kernel
theorem dX4_draw_4 : decode cX4_draw 4 = .ok (.invokestatic 25, 3) := by decide +kernel
theorem dX4_draw_7 : decode cX4_draw 7 = .ok (.iload_n 2, 1) := by decide +kernel
theorem dX4_draw_8 : decode cX4_draw 8 = .ok (.bipush (-2), 2) := by decide +kernel
theorem dX4_draw_10 : decode cX4_draw 10 = .ok (.iconst 2, 1) := by decide +kernel
theorem dX4_draw_11 : decode cX4_draw 11 = .ok (.invokestatic 25, 3) := by decide +kernel
theorem dX4_draw_14 : decode cX4_draw 14 = .ok (.aload_n 0, 1) := by decide +kernel
theorem dX4_draw_15 : decode cX4_draw 15 = .ok (.getfield 29, 3) := by decide +kernel
theorem dX4_draw_18 : decode cX4_draw 18 = .ok (.aload_n 0, 1) := by decide +kernel
theorem dX4_draw_19 : decode cX4_draw 19 = .ok (.getfield 11, 3) := by decide +kernel
theorem dX4_draw_22 : decode cX4_draw 22 = .ok (.arraylength, 1) := by decide +kernel
theorem dX4_draw_23 : decode cX4_draw 23 = .ok (.if_icmp .lt 13, 3) := by decide +kernel
theorem dX4_draw_26 : decode cX4_draw 26 = .ok (.new 32, 3) := by decide +kernel
theorem dX4_draw_29 : decode cX4_draw 29 = .ok (.dup, 1) := by decide +kernel
theorem dX4_draw_30 : decode cX4_draw 30 = .ok (.ldc 34, 2) := by decide +kernel
theorem dX4_draw_32 : decode cX4_draw 32 = .ok (.invokespecial 36, 3) := by decide +kernel
theorem dX4_draw_35 : decode cX4_draw 35 = .ok (.athrow, 1) := by decide +kernel
theorem dX4_draw_36 : decode cX4_draw 36 = .ok (.aload_n 0, 1) := by decide +kernel
theorem dX4_draw_37 : decode cX4_draw 37 = .ok (.getfield 29, 3) := by decide +kernel
theorem dX4_draw_40 : decode cX4_draw 40 = .ok (.istore_n 3, 1) := by decide +kernel
theorem dX4_draw_41 : decode cX4_draw 41 = .ok (.aload_n 0, 1) := by decide +kernel
theorem dX4_draw_42 : decode cX4_draw 42 = .ok (.getfield 11, 3) := by decide +kernel
theorem dX4_draw_45 : decode cX4_draw 45 = .ok (.iload_n 3, 1) := by decide +kernel
theorem dX4_draw_46 : decode cX4_draw 46 = .ok (.new 9, 3) := by decide +kernel
theorem dX4_draw_49 : decode cX4_draw 49 = .ok (.dup, 1) := by decide +kernel
theorem dX4_draw_50 : decode cX4_draw 50 = .ok (.iload_n 1, 1) := by decide +kernel
theorem dX4_draw_51 : decode cX4_draw 51 = .ok (.iload_n 2, 1) := by decide +kernel
theorem dX4_draw_52 : decode cX4_draw 52 = .ok (.invokespecial 39, 3) := by decide +kernel
theorem dX4_draw_55 : decode cX4_draw 55 = .ok (.aastore, 1) := by decide +kernel
theorem dX4_draw_56 : decode cX4_draw 56 = .ok (.aload_n 0, 1) := by decide +kernel
theorem dX4_draw_57 : decode cX4_draw 57 = .ok (.dup, 1) := by decide +kernel
theorem dX4_draw_58 : decode cX4_draw 58 = .ok (.getfield 29, 3) := by decide +kernel
theorem dX4_draw_61 : decode cX4_draw 61 = .ok (.iconst 1, 1) := by decide +kernel
theorem dX4_draw_62 : decode cX4_draw 62 = .ok (.iadd, 1) := by decide +kernel
theorem dX4_draw_63 : decode cX4_draw 63 = .ok (.putfield 29, 3) := by decide +kernel
theorem dX4_draw_66 : decode cX4_draw 66 = .ok (.iload_n 3, 1) := by decide +kernel
theorem dX4_draw_67 : decode cX4_draw 67 = .ok (.ireturn, 1) := by decide +kernel
set_option maxRecDepth 20000 in
theorem ggX4_section_X4_tubeNumbered : GoodIn wsX4_section wsX4_tubeNumbered := goodIn_ca (goodIn_r _ [5, 6, 7, 8, 29, 30, 31, 32, 33, 34, 35, 36, 37] (by decide +kernel) (by decide +kernel)) (goodIn_sub (fun _ h => List.mem_cons_of_mem _ (List.mem_append_left _ (List.mem_append_left _ (List.mem_append_right _ h)))) (by decide +kernel))
set_option maxRecDepth 20000 in
theorem gX4_section_X4_tubeNumbered : GoodIn wsX4_section (wsV RX4 42 RX4 yX4_tubeNumbered wsX4_tubeNumbered) := goodIn_app (goodIn_of _ (by decide +kernel)) ggX4_section_X4_tubeNumbered
set_option maxRecDepth 20000 in
theorem ggX4_section_X4_demandRange : GoodIn wsX4_section wsX4_demandRange := goodIn_ca (goodIn_r _ [11, 12, 13] (by decide +kernel) (by decide +kernel)) (goodIn_sub (fun _ h => List.mem_cons_of_mem _ (List.mem_append_left _ (List.mem_append_right _ h))) (by decide +kernel))
set_option maxRecDepth 20000 in
theorem gX4_section_X4_demandRange : GoodIn wsX4_section (va_wsS RX4 25 yX4_demandRange wsX4_demandRange) := goodIn_app (goodIn_of _ (by decide +kernel)) ggX4_section_X4_demandRange
set_option maxRecDepth 20000 in
theorem ggX4_section_X4_demandUnused : GoodIn wsX4_section wsX4_demandUnused := goodIn_ca (goodIn_r _ [16, 17, 18, 38, 39] (by decide +kernel) (by decide +kernel)) (goodIn_sub (fun _ h => List.mem_cons_of_mem _ (List.mem_append_right _ h)) (by decide +kernel))
set_option maxRecDepth 20000 in
theorem gX4_section_X4_demandUnused : GoodIn wsX4_section (va_wsS RX4 46 yX4_demandUnused wsX4_demandUnused) := goodIn_app (goodIn_of _ (by decide +kernel)) ggX4_section_X4_demandUnused
set_option maxRecDepth 20000 in
theorem ggX4_section_X3_boreOf : GoodIn wsX4_section wsX3_boreOf := goodIn_r _ [23, 24, 38, 39] (by decide +kernel) (by decide +kernel)
set_option maxRecDepth 20000 in
theorem gX4_section_X3_boreOf : GoodIn wsX4_section (wsV RX4 50 RX3 yX3_boreOf wsX3_boreOf) := goodIn_app (goodIn_of _ (by decide +kernel)) ggX4_section_X3_boreOf
set_option maxRecDepth 20000 in
theorem ggX4_section_X3_setBore : GoodIn wsX4_section wsX3_setBore := goodIn_r _ [28, 24, 38, 39] (by decide +kernel) (by decide +kernel)
set_option maxRecDepth 20000 in
theorem gX4_section_X3_setBore : GoodIn wsX4_section (wsV RX4 54 RX3 yX3_setBore wsX3_setBore) := goodIn_app (goodIn_of _ (by decide +kernel)) ggX4_section_X3_setBore
theorem dX4_section_0 : decode cX4_section 0 = .ok (.aload_n 0, 1) := by decide +kernel
theorem dX4_section_1 : decode cX4_section 1 = .ok (.iload_n 1, 1) := by decide +kernel
theorem dX4_section_2 : decode cX4_section 2 = .ok (.invokevirtual 42, 3) := by decide +kernel
theorem dX4_section_5 : decode cX4_section 5 = .ok (.astore 4, 2) := by decide +kernel
theorem dX4_section_7 : decode cX4_section 7 = .ok (.iload_n 2, 1) := by decide +kernel
theorem dX4_section_8 : decode cX4_section 8 = .ok (.iconst 0, 1) := by decide +kernel
theorem dX4_section_9 : decode cX4_section 9 = .ok (.bipush 19, 2) := by decide +kernel
theorem dX4_section_11 : decode cX4_section 11 = .ok (.invokestatic 25, 3) := by decide +kernel
theorem dX4_section_14 : decode cX4_section 14 = .ok (.iload_n 3, 1) := by decide +kernel
theorem dX4_section_15 : decode cX4_section 15 = .ok (.iconst 1, 1) := by decide +kernel
theorem dX4_section_16 : decode cX4_section 16 = .ok (.bipush 60, 2) := by decide +kernel
theorem dX4_section_18 : decode cX4_section 18 = .ok (.invokestatic 25, 3) := by decide +kernel
theorem dX4_section_21 : decode cX4_section 21 = .ok (.aload 4, 2) := by decide +kernel
theorem dX4_section_23 : decode cX4_section 23 = .ok (.invokestatic 46, 3) := by decide +kernel
theorem dX4_section_26 : decode cX4_section 26 = .ok (.aload 4, 2) := by decide +kernel
theorem dX4_section_28 : decode cX4_section 28 = .ok (.iload_n 2, 1) := by decide +kernel
theorem dX4_section_29 : decode cX4_section 29 = .ok (.invokevirtual 50, 3) := by decide +kernel
theorem dX4_section_32 : decode cX4_section 32 = .ok (.istore 5, 2) := by decide +kernel
theorem dX4_section_34 : decode cX4_section 34 = .ok (.aload 4, 2) := by decide +kernel
theorem dX4_section_36 : decode cX4_section 36 = .ok (.iload_n 2, 1) := by decide +kernel
theorem dX4_section_37 : decode cX4_section 37 = .ok (.iload_n 3, 1) := by decide +kernel
theorem dX4_section_38 : decode cX4_section 38 = .ok (.invokevirtual 54, 3) := by decide +kernel
theorem dX4_section_41 : decode cX4_section 41 = .ok (.iload 5, 2) := by decide +kernel
theorem dX4_section_43 : decode cX4_section 43 = .ok (.ireturn, 1) := by decide +kernel
set_option maxRecDepth 20000 in
theorem ggX4_bore_X4_tubeNumbered : GoodIn wsX4_bore wsX4_tubeNumbered := goodIn_ca (goodIn_r _ [5, 6, 7, 8, 20, 21, 22, 23, 24, 25, 26, 27, 28] (by decide +kernel) (by decide +kernel)) (goodIn_sub (fun _ h => List.mem_cons_of_mem _ (List.mem_append_left _ (List.mem_append_right _ h))) (by decide +kernel))
set_option maxRecDepth 20000 in
theorem gX4_bore_X4_tubeNumbered : GoodIn wsX4_bore (wsV RX4 42 RX4 yX4_tubeNumbered wsX4_tubeNumbered) := goodIn_app (goodIn_of _ (by decide +kernel)) ggX4_bore_X4_tubeNumbered
set_option maxRecDepth 20000 in
theorem ggX4_bore_X4_demandRange : GoodIn wsX4_bore wsX4_demandRange := goodIn_ca (goodIn_r _ [11, 12, 13] (by decide +kernel) (by decide +kernel)) (goodIn_sub (fun _ h => List.mem_cons_of_mem _ (List.mem_append_right _ h)) (by decide +kernel))
set_option maxRecDepth 20000 in
theorem gX4_bore_X4_demandRange : GoodIn wsX4_bore (va_wsS RX4 25 yX4_demandRange wsX4_demandRange) := goodIn_app (goodIn_of _ (by decide +kernel)) ggX4_bore_X4_demandRange
set_option maxRecDepth 20000 in
theorem ggX4_bore_X3_boreOf : GoodIn wsX4_bore wsX3_boreOf := goodIn_r _ [18, 19, 29, 30] (by decide +kernel) (by decide +kernel)
set_option maxRecDepth 20000 in
theorem gX4_bore_X3_boreOf : GoodIn wsX4_bore (wsV RX4 50 RX3 yX3_boreOf wsX3_boreOf) := goodIn_app (goodIn_of _ (by decide +kernel)) ggX4_bore_X3_boreOf
theorem dX4_bore_0 : decode cX4_bore 0 = .ok (.aload_n 0, 1) := by decide +kernel
theorem dX4_bore_1 : decode cX4_bore 1 = .ok (.iload_n 1, 1) := by decide +kernel
theorem dX4_bore_2 : decode cX4_bore 2 = .ok (.invokevirtual 42, 3) := by decide +kernel
theorem dX4_bore_5 : decode cX4_bore 5 = .ok (.astore_n 3, 1) := by decide +kernel
theorem dX4_bore_6 : decode cX4_bore 6 = .ok (.iload_n 2, 1) := by decide +kernel
theorem dX4_bore_7 : decode cX4_bore 7 = .ok (.iconst 0, 1) := by decide +kernel
theorem dX4_bore_8 : decode cX4_bore 8 = .ok (.bipush 19, 2) := by decide +kernel
theorem dX4_bore_10 : decode cX4_bore 10 = .ok (.invokestatic 25, 3) := by decide +kernel
theorem dX4_bore_13 : decode cX4_bore 13 = .ok (.aload_n 3, 1) := by decide +kernel
theorem dX4_bore_14 : decode cX4_bore 14 = .ok (.iload_n 2, 1) := by decide +kernel
theorem dX4_bore_15 : decode cX4_bore 15 = .ok (.invokevirtual 50, 3) := by decide +kernel
theorem dX4_bore_18 : decode cX4_bore 18 = .ok (.ireturn, 1) := by decide +kernel
set_option maxRecDepth 20000 in
theorem ggX4_volume_X4_tubeNumbered : GoodIn wsX4_volume wsX4_tubeNumbered := goodIn_ca (goodIn_r _ [5, 6, 7, 8, 33, 34, 35, 36, 37, 38, 39, 40, 41] (by decide +kernel) (by decide +kernel)) (goodIn_sub (fun _ h => List.mem_cons_of_mem _ (List.mem_append_left _ (List.mem_append_right _ h))) (by decide +kernel))
set_option maxRecDepth 20000 in
theorem gX4_volume_X4_tubeNumbered : GoodIn wsX4_volume (wsV RX4 42 RX4 yX4_tubeNumbered wsX4_tubeNumbered) := goodIn_app (goodIn_of _ (by decide +kernel)) ggX4_volume_X4_tubeNumbered
set_option maxRecDepth 20000 in
theorem ggX4_volume_X4_demandPlace : GoodIn wsX4_volume wsX4_demandPlace := goodIn_ca (goodIn_r _ [11, 12, 13, 4, 14, 15, 16] (by decide +kernel) (by decide +kernel)) (goodIn_sub (fun _ h => List.mem_cons_of_mem _ (List.mem_append_right _ h)) (by decide +kernel))
set_option maxRecDepth 20000 in
theorem gX4_volume_X4_demandPlace : GoodIn wsX4_volume (va_wsS RX4 57 yX4_demandPlace wsX4_demandPlace) := goodIn_app (goodIn_of _ (by decide +kernel)) ggX4_volume_X4_demandPlace
set_option maxRecDepth 20000 in
theorem ggX4_volume_X3_volumeUpTo : GoodIn wsX4_volume wsX3_volumeUpTo := goodIn_r _ [21, 22, 23, 24, 20, 25, 26, 27, 28, 29, 30, 31, 32, 42, 43] (by decide +kernel) (by decide +kernel)
set_option maxRecDepth 20000 in
theorem gX4_volume_X3_volumeUpTo : GoodIn wsX4_volume (wsV RX4 61 RX3 yX3_volumeUpTo wsX3_volumeUpTo) := goodIn_app (goodIn_of _ (by decide +kernel)) ggX4_volume_X3_volumeUpTo
theorem dX4_volume_0 : decode cX4_volume 0 = .ok (.aload_n 0, 1) := by decide +kernel
theorem dX4_volume_1 : decode cX4_volume 1 = .ok (.iload_n 1, 1) := by decide +kernel
theorem dX4_volume_2 : decode cX4_volume 2 = .ok (.invokevirtual 42, 3) := by decide +kernel
theorem dX4_volume_5 : decode cX4_volume 5 = .ok (.astore_n 3, 1) := by decide +kernel
theorem dX4_volume_6 : decode cX4_volume 6 = .ok (.iload_n 2, 1) := by decide +kernel
theorem dX4_volume_7 : decode cX4_volume 7 = .ok (.invokestatic 57, 3) := by decide +kernel
theorem dX4_volume_10 : decode cX4_volume 10 = .ok (.aload_n 3, 1) := by decide +kernel
theorem dX4_volume_11 : decode cX4_volume 11 = .ok (.iload_n 2, 1) := by decide +kernel
theorem dX4_volume_12 : decode cX4_volume 12 = .ok (.invokevirtual 61, 3) := by decide +kernel
theorem dX4_volume_15 : decode cX4_volume 15 = .ok (.ireturn, 1) := by decide +kernel
set_option maxRecDepth 20000 in
theorem ggX4_thread_X4_tubeNumbered : GoodIn wsX4_thread wsX4_tubeNumbered := goodIn_ca (goodIn_r _ [8, 9, 10, 11, 41, 42, 43, 44, 45, 46, 47, 48, 49] (by decide +kernel) (by decide +kernel)) (goodIn_sub (fun _ h => List.mem_cons_of_mem _ (List.mem_append_left _ (List.mem_append_right _ h))) (by decide +kernel))
set_option maxRecDepth 20000 in
theorem gX4_thread_X4_tubeNumbered : GoodIn wsX4_thread (wsV RX4 42 RX4 yX4_tubeNumbered wsX4_tubeNumbered) := goodIn_app (goodIn_of _ (by decide +kernel)) ggX4_thread_X4_tubeNumbered
set_option maxRecDepth 20000 in
theorem ggX4_thread_X4_demandPlace : GoodIn wsX4_thread wsX4_demandPlace := goodIn_ca (goodIn_r _ [14, 15, 16, 7, 17, 18, 19] (by decide +kernel) (by decide +kernel)) (goodIn_sub (fun _ h => List.mem_cons_of_mem _ (List.mem_append_right _ h)) (by decide +kernel))
set_option maxRecDepth 20000 in
theorem gX4_thread_X4_demandPlace : GoodIn wsX4_thread (va_wsS RX4 57 yX4_demandPlace wsX4_demandPlace) := goodIn_app (goodIn_of _ (by decide +kernel)) ggX4_thread_X4_demandPlace
set_option maxRecDepth 20000 in
theorem ggX4_thread_X4_demandRange : GoodIn wsX4_thread wsX4_demandRange := goodIn_ca (goodIn_r _ [17, 18, 19] (by decide +kernel) (by decide +kernel)) (goodIn_sub (fun _ h => List.mem_cons_of_mem _ (List.mem_append_right _ h)) (by decide +kernel))
set_option maxRecDepth 20000 in
theorem gX4_thread_X4_demandRange : GoodIn wsX4_thread (va_wsS RX4 25 yX4_demandRange wsX4_demandRange) := goodIn_app (goodIn_of _ (by decide +kernel)) ggX4_thread_X4_demandRange
set_option maxRecDepth 20000 in
theorem ggX4_thread_X3_volumeUpTo : GoodIn wsX4_thread wsX3_volumeUpTo := goodIn_r _ [24, 25, 26, 27, 23, 28, 29, 30, 31, 32, 33, 34, 35, 50, 51] (by decide +kernel) (by decide +kernel)
set_option maxRecDepth 20000 in
theorem gX4_thread_X3_volumeUpTo : GoodIn wsX4_thread (wsV RX4 61 RX3 yX3_volumeUpTo wsX3_volumeUpTo) := goodIn_app (goodIn_of _ (by decide +kernel)) ggX4_thread_X3_volumeUpTo
set_option maxRecDepth 20000 in
theorem ggX4_thread_X3_firstPlaceHolding : GoodIn wsX4_thread wsX3_firstPlaceHolding := goodIn_r _ [39, 40, 21, 22, 23, 24, 25, 26, 27, 28, 29, 30, 31, 32, 33, 34, 35, 50, 51] (by decide +kernel) (by decide +kernel)
set_option maxRecDepth 20000 in
theorem gX4_thread_X3_firstPlaceHolding : GoodIn wsX4_thread (wsV RX4 65 RX3 yX3_firstPlaceHolding wsX3_firstPlaceHolding) := goodIn_app (goodIn_of _ (by decide +kernel)) ggX4_thread_X3_firstPlaceHolding
theorem dX4_thread_0 : decode cX4_thread 0 = .ok (.aload_n 0, 1) := by decide +kernel
theorem dX4_thread_1 : decode cX4_thread 1 = .ok (.iload_n 1, 1) := by decide +kernel
theorem dX4_thread_2 : decode cX4_thread 2 = .ok (.invokevirtual 42, 3) := by decide +kernel
theorem dX4_thread_5 : decode cX4_thread 5 = .ok (.astore 4, 2) := by decide +kernel
theorem dX4_thread_7 : decode cX4_thread 7 = .ok (.iload_n 2, 1) := by decide +kernel
theorem dX4_thread_8 : decode cX4_thread 8 = .ok (.invokestatic 57, 3) := by decide +kernel
theorem dX4_thread_11 : decode cX4_thread 11 = .ok (.iload_n 3, 1) := by decide +kernel
theorem dX4_thread_12 : decode cX4_thread 12 = .ok (.iconst 1, 1) := by decide +kernel
theorem dX4_thread_13 : decode cX4_thread 13 = .ok (.ldc 64, 2) := by decide +kernel
theorem dX4_thread_15 : decode cX4_thread 15 = .ok (.invokestatic 25, 3) := by decide +kernel
theorem dX4_thread_18 : decode cX4_thread 18 = .ok (.aload 4, 2) := by decide +kernel
theorem dX4_thread_20 : decode cX4_thread 20 = .ok (.aload 4, 2) := by decide +kernel
theorem dX4_thread_22 : decode cX4_thread 22 = .ok (.iload_n 2, 1) := by decide +kernel
theorem dX4_thread_23 : decode cX4_thread 23 = .ok (.invokevirtual 61, 3) := by decide +kernel
theorem dX4_thread_26 : decode cX4_thread 26 = .ok (.iload_n 3, 1) := by decide +kernel
theorem dX4_thread_27 : decode cX4_thread 27 = .ok (.iadd, 1) := by decide +kernel
theorem dX4_thread_28 : decode cX4_thread 28 = .ok (.invokevirtual 65, 3) := by decide +kernel
theorem dX4_thread_31 : decode cX4_thread 31 = .ok (.istore 5, 2) := by decide +kernel
theorem dX4_thread_33 : decode cX4_thread 33 = .ok (.iload 5, 2) := by decide +kernel
theorem dX4_thread_35 : decode cX4_thread 35 = .ok (.iconst (-1), 1) := by decide +kernel
theorem dX4_thread_36 : decode cX4_thread 36 = .ok (.if_icmp .ne 13, 3) := by decide +kernel
theorem dX4_thread_39 : decode cX4_thread 39 = .ok (.new 68, 3) := by decide +kernel
theorem dX4_thread_42 : decode cX4_thread 42 = .ok (.dup, 1) := by decide +kernel
theorem dX4_thread_43 : decode cX4_thread 43 = .ok (.ldc 70, 2) := by decide +kernel
theorem dX4_thread_45 : decode cX4_thread 45 = .ok (.invokespecial 72, 3) := by decide +kernel
theorem dX4_thread_48 : decode cX4_thread 48 = .ok (.athrow, 1) := by decide +kernel
theorem dX4_thread_49 : decode cX4_thread 49 = .ok (.iload 5, 2) := by decide +kernel
theorem dX4_thread_51 : decode cX4_thread 51 = .ok (.ireturn, 1) := by decide +kernel
set_option maxRecDepth 20000 in
theorem ggX4_widest_X4_tubeNumbered : GoodIn wsX4_widest wsX4_tubeNumbered := goodIn_ca (goodIn_r _ [5, 6, 7, 8, 19, 20, 21, 22, 23, 24, 25, 26, 27] (by decide +kernel) (by decide +kernel)) (goodIn_sub (fun _ h => List.mem_cons_of_mem _ (List.mem_append_right _ h)) (by decide +kernel))
set_option maxRecDepth 20000 in
theorem gX4_widest_X4_tubeNumbered : GoodIn wsX4_widest (wsV RX4 42 RX4 yX4_tubeNumbered wsX4_tubeNumbered) := goodIn_app (goodIn_of _ (by decide +kernel)) ggX4_widest_X4_tubeNumbered
set_option maxRecDepth 20000 in
theorem ggX4_widest_X3_widestSection : GoodIn wsX4_widest wsX3_widestSection := goodIn_r _ [13, 14, 15, 16, 17, 12, 18, 28, 29] (by decide +kernel) (by decide +kernel)
set_option maxRecDepth 20000 in
theorem gX4_widest_X3_widestSection : GoodIn wsX4_widest (wsV RX4 73 RX3 yX3_widestSection wsX3_widestSection) := goodIn_app (goodIn_of _ (by decide +kernel)) ggX4_widest_X3_widestSection
theorem dX4_widest_0 : decode cX4_widest 0 = .ok (.aload_n 0, 1) := by decide +kernel
theorem dX4_widest_1 : decode cX4_widest 1 = .ok (.iload_n 1, 1) := by decide +kernel
theorem dX4_widest_2 : decode cX4_widest 2 = .ok (.invokevirtual 42, 3) := by decide +kernel
theorem dX4_widest_5 : decode cX4_widest 5 = .ok (.invokevirtual 73, 3) := by decide +kernel
theorem dX4_widest_8 : decode cX4_widest 8 = .ok (.ireturn, 1) := by decide +kernel
set_option maxRecDepth 20000 in
theorem ggX4_deliver_X4_tubeNumbered : GoodIn wsX4_deliver wsX4_tubeNumbered := goodIn_ca (goodIn_r _ [7, 8, 9, 10, 40, 41, 42, 43, 44, 45, 46, 47, 48] (by decide +kernel) (by decide +kernel)) (goodIn_sub (fun _ h => List.mem_cons_of_mem _ (List.mem_append_right _ h)) (by decide +kernel))
set_option maxRecDepth 20000 in
theorem gX4_deliver_X4_tubeNumbered : GoodIn wsX4_deliver (wsV RX4 42 RX4 yX4_tubeNumbered wsX4_tubeNumbered) := goodIn_app (goodIn_of _ (by decide +kernel)) ggX4_deliver_X4_tubeNumbered
set_option maxRecDepth 20000 in
theorem ggX4_deliver_X4_demandPlace : GoodIn wsX4_deliver wsX4_demandPlace := goodIn_ca (goodIn_r _ [13, 14, 15, 6, 16, 1, 2] (by decide +kernel) (by decide +kernel)) (goodIn_sub (fun _ h => List.mem_cons_of_mem _ (List.mem_append_left _ (List.mem_append_right _ h))) (by decide +kernel))
set_option maxRecDepth 20000 in
theorem gX4_deliver_X4_demandPlace : GoodIn wsX4_deliver (va_wsS RX4 57 yX4_demandPlace wsX4_demandPlace) := goodIn_app (goodIn_of _ (by decide +kernel)) ggX4_deliver_X4_demandPlace
set_option maxRecDepth 20000 in
theorem ggX4_deliver_X4_demandRange : GoodIn wsX4_deliver wsX4_demandRange := goodIn_ca (goodIn_r _ [16, 1, 2] (by decide +kernel) (by decide +kernel)) (goodIn_sub (fun _ h => List.mem_cons_of_mem _ (List.mem_append_left _ (List.mem_append_right _ h))) (by decide +kernel))
set_option maxRecDepth 20000 in
theorem gX4_deliver_X4_demandRange : GoodIn wsX4_deliver (va_wsS RX4 25 yX4_demandRange wsX4_demandRange) := goodIn_app (goodIn_of _ (by decide +kernel)) ggX4_deliver_X4_demandRange
set_option maxRecDepth 20000 in
theorem ggX4_deliver_X3_volumeUpTo : GoodIn wsX4_deliver wsX3_volumeUpTo := goodIn_r _ [21, 22, 23, 24, 20, 25, 26, 27, 28, 29, 30, 31, 32, 49, 50] (by decide +kernel) (by decide +kernel)
set_option maxRecDepth 20000 in
theorem gX4_deliver_X3_volumeUpTo : GoodIn wsX4_deliver (wsV RX4 61 RX3 yX3_volumeUpTo wsX3_volumeUpTo) := goodIn_app (goodIn_of _ (by decide +kernel)) ggX4_deliver_X3_volumeUpTo
set_option maxRecDepth 20000 in
theorem ggX4_deliver_X4_clingingToStep : GoodIn wsX4_deliver wsX4_clingingToStep := goodIn_r _ [35] (by decide +kernel) (by decide +kernel)
set_option maxRecDepth 20000 in
theorem gX4_deliver_X4_clingingToStep : GoodIn wsX4_deliver (va_wsS RX4 82 yX4_clingingToStep wsX4_clingingToStep) := goodIn_app (goodIn_of _ (by decide +kernel)) ggX4_deliver_X4_clingingToStep
set_option maxRecDepth 20000 in
theorem ggX4_deliver_X3_clinging : GoodIn wsX4_deliver wsX3_clinging := goodIn_r _ [39, 22, 26, 27, 28, 29, 23, 24, 20, 25, 30, 31, 32, 49, 50] (by decide +kernel) (by decide +kernel)
set_option maxRecDepth 20000 in
theorem gX4_deliver_X3_clinging : GoodIn wsX4_deliver (wsV RX4 85 RX3 yX3_clinging wsX3_clinging) := goodIn_app (goodIn_of _ (by decide +kernel)) ggX4_deliver_X3_clinging
theorem dX4_deliver_0 : decode cX4_deliver 0 = .ok (.aload_n 0, 1) := by decide +kernel
theorem dX4_deliver_1 : decode cX4_deliver 1 = .ok (.iload_n 1, 1) := by decide +kernel
theorem dX4_deliver_2 : decode cX4_deliver 2 = .ok (.invokevirtual 42, 3) := by decide +kernel
theorem dX4_deliver_5 : decode cX4_deliver 5 = .ok (.astore 5, 2) := by decide +kernel
theorem dX4_deliver_7 : decode cX4_deliver 7 = .ok (.iload_n 2, 1) := by decide +kernel
theorem dX4_deliver_8 : decode cX4_deliver 8 = .ok (.invokestatic 57, 3) := by decide +kernel
theorem dX4_deliver_11 : decode cX4_deliver 11 = .ok (.iload_n 3, 1) := by decide +kernel
theorem dX4_deliver_12 : decode cX4_deliver 12 = .ok (.invokestatic 57, 3) := by decide +kernel
theorem dX4_deliver_15 : decode cX4_deliver 15 = .ok (.iload 4, 2) := by decide +kernel
theorem dX4_deliver_17 : decode cX4_deliver 17 = .ok (.iconst 1, 1) := by decide +kernel
theorem dX4_deliver_18 : decode cX4_deliver 18 = .ok (.sipush 999, 3) := by decide +kernel
theorem dX4_deliver_21 : decode cX4_deliver 21 = .ok (.invokestatic 25, 3) := by decide +kernel
theorem dX4_deliver_24 : decode cX4_deliver 24 = .ok (.iload_n 3, 1) := by decide +kernel
theorem dX4_deliver_25 : decode cX4_deliver 25 = .ok (.iload_n 2, 1) := by decide +kernel
theorem dX4_deliver_26 : decode cX4_deliver 26 = .ok (.if_icmp .lt 13, 3) := by decide +kernel
theorem dX4_deliver_29 : decode cX4_deliver 29 = .ok (.new 77, 3) := by decide +kernel
theorem dX4_deliver_32 : decode cX4_deliver 32 = .ok (.dup, 1) := by decide +kernel
theorem dX4_deliver_33 : decode cX4_deliver 33 = .ok (.ldc 79, 2) := by decide +kernel
theorem dX4_deliver_35 : decode cX4_deliver 35 = .ok (.invokespecial 81, 3) := by decide +kernel
theorem dX4_deliver_38 : decode cX4_deliver 38 = .ok (.athrow, 1) := by decide +kernel
theorem dX4_deliver_39 : decode cX4_deliver 39 = .ok (.aload 5, 2) := by decide +kernel
theorem dX4_deliver_41 : decode cX4_deliver 41 = .ok (.iload_n 2, 1) := by decide +kernel
theorem dX4_deliver_42 : decode cX4_deliver 42 = .ok (.invokevirtual 61, 3) := by decide +kernel
theorem dX4_deliver_45 : decode cX4_deliver 45 = .ok (.aload 5, 2) := by decide +kernel
theorem dX4_deliver_47 : decode cX4_deliver 47 = .ok (.iload_n 3, 1) := by decide +kernel
theorem dX4_deliver_48 : decode cX4_deliver 48 = .ok (.invokevirtual 61, 3) := by decide +kernel
theorem dX4_deliver_51 : decode cX4_deliver 51 = .ok (.isub, 1) := by decide +kernel
theorem dX4_deliver_52 : decode cX4_deliver 52 = .ok (.istore 6, 2) := by decide +kernel
theorem dX4_deliver_54 : decode cX4_deliver 54 = .ok (.iload 6, 2) := by decide +kernel
theorem dX4_deliver_56 : decode cX4_deliver 56 = .ok (.aload 5, 2) := by decide +kernel
theorem dX4_deliver_58 : decode cX4_deliver 58 = .ok (.iload_n 3, 1) := by decide +kernel
theorem dX4_deliver_59 : decode cX4_deliver 59 = .ok (.iload_n 2, 1) := by decide +kernel
theorem dX4_deliver_60 : decode cX4_deliver 60 = .ok (.iload 4, 2) := by decide +kernel
theorem dX4_deliver_62 : decode cX4_deliver 62 = .ok (.invokestatic 82, 3) := by decide +kernel
theorem dX4_deliver_65 : decode cX4_deliver 65 = .ok (.invokevirtual 85, 3) := by decide +kernel
theorem dX4_deliver_68 : decode cX4_deliver 68 = .ok (.isub, 1) := by decide +kernel
theorem dX4_deliver_69 : decode cX4_deliver 69 = .ok (.ireturn, 1) := by decide +kernel
set_option maxRecDepth 20000 in
theorem ggX4_make_X4_tubeNumbered : GoodIn wsX4_make wsX4_tubeNumbered := goodIn_ca (goodIn_r _ [13, 14, 15, 16, 65, 66, 67, 68, 69, 70, 71, 72, 73] (by decide +kernel) (by decide +kernel)) (goodIn_sub (fun _ h => List.mem_cons_of_mem _ (List.mem_append_left _ (List.mem_append_left _ (List.mem_append_right _ h)))) (by decide +kernel))
set_option maxRecDepth 20000 in
theorem gX4_make_X4_tubeNumbered : GoodIn wsX4_make (wsV RX4 42 RX4 yX4_tubeNumbered wsX4_tubeNumbered) := goodIn_app (goodIn_of _ (by decide +kernel)) ggX4_make_X4_tubeNumbered
set_option maxRecDepth 20000 in
theorem ggX4_make_X4_demandRange : GoodIn wsX4_make wsX4_demandRange := goodIn_ca (goodIn_r _ [19, 20, 21] (by decide +kernel) (by decide +kernel)) (goodIn_sub (fun _ h => List.mem_cons_of_mem _ (List.mem_append_left _ (List.mem_append_right _ h))) (by decide +kernel))
set_option maxRecDepth 20000 in
theorem gX4_make_X4_demandRange : GoodIn wsX4_make (va_wsS RX4 25 yX4_demandRange wsX4_demandRange) := goodIn_app (goodIn_of _ (by decide +kernel)) ggX4_make_X4_demandRange
set_option maxRecDepth 20000 in
theorem ggX4_make_X4_demandEither : GoodIn wsX4_make wsX4_demandEither := goodIn_ca (goodIn_r _ [24, 20, 21] (by decide +kernel) (by decide +kernel)) (goodIn_sub (fun _ h => List.mem_cons_of_mem _ (List.mem_append_left _ (List.mem_append_right _ h))) (by decide +kernel))
set_option maxRecDepth 20000 in
theorem gX4_make_X4_demandEither : GoodIn wsX4_make (va_wsS RX4 90 yX4_demandEither wsX4_demandEither) := goodIn_app (goodIn_of _ (by decide +kernel)) ggX4_make_X4_demandEither
set_option maxRecDepth 20000 in
theorem ggX4_make_X4_demandUnused : GoodIn wsX4_make wsX4_demandUnused := goodIn_ca (goodIn_r _ [27, 28, 29, 74, 75] (by decide +kernel) (by decide +kernel)) (goodIn_sub (fun _ h => List.mem_cons_of_mem _ (List.mem_append_right _ h)) (by decide +kernel))
set_option maxRecDepth 20000 in
theorem gX4_make_X4_demandUnused : GoodIn wsX4_make (va_wsS RX4 46 yX4_demandUnused wsX4_demandUnused) := goodIn_app (goodIn_of _ (by decide +kernel)) ggX4_make_X4_demandUnused
set_option maxRecDepth 20000 in
theorem ggX4_make_X0_init : GoodIn wsX4_make wsX0_init := goodIn_r _ [32, 33, 34, 35, 36, 37, 38, 39, 40, 41, 42, 43, 44, 45, 46, 47, 48, 49, 50, 51, 52, 53, 54, 55, 56, 57, 58, 59, 60, 61, 62, 63, 64, 91, 92, 93, 76, 77, 78, 79, 80, 81, 82, 83, 84, 85, 86, 87, 88, 89, 90, 94, 95, 96, 97, 98] (by decide +kernel) (by decide +kernel)
set_option maxRecDepth 20000 in
theorem gX4_make_X0_init : GoodIn wsX4_make (wsX0_init) := ggX4_make_X0_init
theorem dX4_make_0 : decode cX4_make 0 = .ok (.aload_n 0, 1) := by decide +kernel
theorem dX4_make_1 : decode cX4_make 1 = .ok (.iload_n 1, 1) := by decide +kernel
theorem dX4_make_2 : decode cX4_make 2 = .ok (.invokevirtual 42, 3) := by decide +kernel
theorem dX4_make_5 : decode cX4_make 5 = .ok (.astore 4, 2) := by decide +kernel
theorem dX4_make_7 : decode cX4_make 7 = .ok (.iload_n 2, 1) := by decide +kernel
theorem dX4_make_8 : decode cX4_make 8 = .ok (.sipush 1000, 3) := by decide +kernel
theorem dX4_make_11 : decode cX4_make 11 = .ok (.ldc 89, 2) := by decide +kernel
theorem dX4_make_13 : decode cX4_make 13 = .ok (.invokestatic 25, 3) := by decide +kernel
theorem dX4_make_16 : decode cX4_make 16 = .ok (.iload_n 3, 1) := by decide +kernel
theorem dX4_make_17 : decode cX4_make 17 = .ok (.bipush 104, 2) := by decide +kernel
theorem dX4_make_19 : decode cX4_make 19 = .ok (.bipush 115, 2) := by decide +kernel
theorem dX4_make_21 : decode cX4_make 21 = .ok (.invokestatic 90, 3) := by decide +kernel
theorem dX4_make_24 : decode cX4_make 24 = .ok (.aload 4, 2) := by decide +kernel
theorem dX4_make_26 : decode cX4_make 26 = .ok (.invokestatic 46, 3) := by decide +kernel
theorem dX4_make_29 : decode cX4_make 29 = .ok (.aload_n 0, 1) := by decide +kernel
theorem dX4_make_30 : decode cX4_make 30 = .ok (.getfield 94, 3) := by decide +kernel
theorem dX4_make_33 : decode cX4_make 33 = .ok (.aload_n 0, 1) := by decide +kernel
theorem dX4_make_34 : decode cX4_make 34 = .ok (.getfield 17, 3) := by decide +kernel
theorem dX4_make_37 : decode cX4_make 37 = .ok (.arraylength, 1) := by decide +kernel
theorem dX4_make_38 : decode cX4_make 38 = .ok (.if_icmp .lt 13, 3) := by decide +kernel
theorem dX4_make_41 : decode cX4_make 41 = .ok (.new 32, 3) := by decide +kernel
theorem dX4_make_44 : decode cX4_make 44 = .ok (.dup, 1) := by decide +kernel
theorem dX4_make_45 : decode cX4_make 45 = .ok (.ldc 97, 2) := by decide +kernel
theorem dX4_make_47 : decode cX4_make 47 = .ok (.invokespecial 36, 3) := by decide +kernel
theorem dX4_make_50 : decode cX4_make 50 = .ok (.athrow, 1) := by decide +kernel
theorem dX4_make_51 : decode cX4_make 51 = .ok (.aload_n 0, 1) := by decide +kernel
theorem dX4_make_52 : decode cX4_make 52 = .ok (.getfield 94, 3) := by decide +kernel
theorem dX4_make_55 : decode cX4_make 55 = .ok (.istore 5, 2) := by decide +kernel
theorem dX4_make_57 : decode cX4_make 57 = .ok (.aload 4, 2) := by decide +kernel
theorem dX4_make_59 : decode cX4_make 59 = .ok (.iconst 1, 1) := by decide +kernel
theorem dX4_make_60 : decode cX4_make 60 = .ok (.putfield 99, 3) := by decide +kernel
theorem dX4_make_63 : decode cX4_make 63 = .ok (.aload_n 0, 1) := by decide +kernel
theorem dX4_make_64 : decode cX4_make 64 = .ok (.getfield 17, 3) := by decide +kernel
theorem dX4_make_67 : decode cX4_make 67 = .ok (.iload 5, 2) := by decide +kernel
theorem dX4_make_69 : decode cX4_make 69 = .ok (.new 15, 3) := by decide +kernel
theorem dX4_make_72 : decode cX4_make 72 = .ok (.dup, 1) := by decide +kernel
theorem dX4_make_73 : decode cX4_make 73 = .ok (.iload_n 1, 1) := by decide +kernel
theorem dX4_make_74 : decode cX4_make 74 = .ok (.aload 4, 2) := by decide +kernel
theorem dX4_make_76 : decode cX4_make 76 = .ok (.iload_n 2, 1) := by decide +kernel
theorem dX4_make_77 : decode cX4_make 77 = .ok (.iload_n 3, 1) := by decide +kernel
theorem dX4_make_78 : decode cX4_make 78 = .ok (.invokespecial 103, 3) := by decide +kernel
theorem dX4_make_81 : decode cX4_make 81 = .ok (.aastore, 1) := by decide +kernel
theorem dX4_make_82 : decode cX4_make 82 = .ok (.aload_n 0, 1) := by decide +kernel
theorem dX4_make_83 : decode cX4_make 83 = .ok (.dup, 1) := by decide +kernel
theorem dX4_make_84 : decode cX4_make 84 = .ok (.getfield 94, 3) := by decide +kernel
theorem dX4_make_87 : decode cX4_make 87 = .ok (.iconst 1, 1) := by decide +kernel
theorem dX4_make_88 : decode cX4_make 88 = .ok (.iadd, 1) := by decide +kernel
theorem dX4_make_89 : decode cX4_make 89 = .ok (.putfield 94, 3) := by decide +kernel
theorem dX4_make_92 : decode cX4_make 92 = .ok (.iload 5, 2) := by decide +kernel
theorem dX4_make_94 : decode cX4_make 94 = .ok (.ireturn, 1) := by decide +kernel
set_option maxRecDepth 20000 in
theorem ggX4_buy_X4_demandRange : GoodIn wsX4_buy wsX4_demandRange := goodIn_ca (goodIn_r _ [7, 8, 9] (by decide +kernel) (by decide +kernel)) (goodIn_sub (fun _ h => List.mem_cons_of_mem _ (List.mem_append_right _ h)) (by decide +kernel))
set_option maxRecDepth 20000 in
theorem gX4_buy_X4_demandRange : GoodIn wsX4_buy (va_wsS RX4 25 yX4_demandRange wsX4_demandRange) := goodIn_app (goodIn_of _ (by decide +kernel)) ggX4_buy_X4_demandRange
theorem dX4_buy_0 : decode cX4_buy 0 = .ok (.iload_n 1, 1) := by decide +kernel
theorem dX4_buy_1 : decode cX4_buy 1 = .ok (.iconst 1, 1) := by decide +kernel
theorem dX4_buy_2 : decode cX4_buy 2 = .ok (.ldc 64, 2) := by decide +kernel
theorem dX4_buy_4 : decode cX4_buy 4 = .ok (.invokestatic 25, 3) := by decide +kernel
theorem dX4_buy_7 : decode cX4_buy 7 = .ok (.aload_n 0, 1) := by decide +kernel
theorem dX4_buy_8 : decode cX4_buy 8 = .ok (.dup, 1) := by decide +kernel
theorem dX4_buy_9 : decode cX4_buy 9 = .ok (.getfield 106, 3) := by decide +kernel
theorem dX4_buy_12 : decode cX4_buy 12 = .ok (.iload_n 1, 1) := by decide +kernel
theorem dX4_buy_13 : decode cX4_buy 13 = .ok (.iadd, 1) := by decide +kernel
theorem dX4_buy_14 : decode cX4_buy 14 = .ok (.putfield 106, 3) := by decide +kernel
theorem dX4_buy_17 : decode cX4_buy 17 = .ok (.aload_n 0, 1) := by decide +kernel
theorem dX4_buy_18 : decode cX4_buy 18 = .ok (.dup, 1) := by decide +kernel
theorem dX4_buy_19 : decode cX4_buy 19 = .ok (.getfield 109, 3) := by decide +kernel
theorem dX4_buy_22 : decode cX4_buy 22 = .ok (.iload_n 1, 1) := by decide +kernel
theorem dX4_buy_23 : decode cX4_buy 23 = .ok (.iadd, 1) := by decide +kernel
theorem dX4_buy_24 : decode cX4_buy 24 = .ok (.putfield 109, 3) := by decide +kernel
theorem dX4_buy_27 : decode cX4_buy 27 = .ok (.aload_n 0, 1) := by decide +kernel
theorem dX4_buy_28 : decode cX4_buy 28 = .ok (.getfield 109, 3) := by decide +kernel
theorem dX4_buy_31 : decode cX4_buy 31 = .ok (.ireturn, 1) := by decide +kernel
set_option maxRecDepth 20000 in
theorem ggX4_fill_X4_instrumentNumbered : GoodIn wsX4_fill wsX4_instrumentNumbered := goodIn_ca (goodIn_r _ [7, 8, 9, 10, 73, 74, 75, 76, 77, 78, 79, 80, 81] (by decide +kernel) (by decide +kernel)) (goodIn_sub (fun _ h => List.mem_cons_of_mem _ (List.mem_append_left _ (List.mem_append_right _ h))) (by decide +kernel))
set_option maxRecDepth 20000 in
theorem gX4_fill_X4_instrumentNumbered : GoodIn wsX4_fill (wsV RX4 112 RX4 yX4_instrumentNumbered wsX4_instrumentNumbered) := goodIn_app (goodIn_of _ (by decide +kernel)) ggX4_fill_X4_instrumentNumbered
set_option maxRecDepth 20000 in
theorem ggX4_fill_X4_demandEither : GoodIn wsX4_fill wsX4_demandEither := goodIn_ca (goodIn_r _ [13, 14, 15] (by decide +kernel) (by decide +kernel)) (goodIn_sub (fun _ h => List.mem_cons_of_mem _ (List.mem_append_right _ h)) (by decide +kernel))
set_option maxRecDepth 20000 in
theorem gX4_fill_X4_demandEither : GoodIn wsX4_fill (va_wsS RX4 90 yX4_demandEither wsX4_demandEither) := goodIn_app (goodIn_of _ (by decide +kernel)) ggX4_fill_X4_demandEither
set_option maxRecDepth 20000 in
theorem ggX4_fill_X4_demandPlace : GoodIn wsX4_fill wsX4_demandPlace := goodIn_ca (goodIn_r _ [18, 19, 20, 6, 21, 14, 15] (by decide +kernel) (by decide +kernel)) (goodIn_sub (fun _ h => List.mem_cons_of_mem _ (List.mem_append_right _ h)) (by decide +kernel))
set_option maxRecDepth 20000 in
theorem gX4_fill_X4_demandPlace : GoodIn wsX4_fill (va_wsS RX4 57 yX4_demandPlace wsX4_demandPlace) := goodIn_app (goodIn_of _ (by decide +kernel)) ggX4_fill_X4_demandPlace
set_option maxRecDepth 20000 in
theorem ggX4_fill_X0_roomUpTo : GoodIn wsX4_fill wsX0_roomUpTo := goodIn_r _ [26, 27, 28, 29, 30, 31, 32, 33, 34, 35, 36, 37, 38, 39, 40, 41, 42, 43, 44, 45, 58, 59, 60, 61, 62, 63, 64, 65, 66, 67, 68, 69, 70, 71, 72, 82, 83] (by decide +kernel) (by decide +kernel)
set_option maxRecDepth 20000 in
theorem gX4_fill_X0_roomUpTo : GoodIn wsX4_fill (wsV RX4 127 RX0 yX0_roomUpTo wsX0_roomUpTo) := goodIn_app (goodIn_of _ (by decide +kernel)) ggX4_fill_X0_roomUpTo
set_option maxRecDepth 20000 in
theorem ggX4_fill_X4_takeFromStock : GoodIn wsX4_fill wsX4_takeFromStock := goodIn_ca (goodIn_r _ [49, 1, 2, 50, 73, 74, 75, 76, 77, 78, 79, 80, 81] (by decide +kernel) (by decide +kernel)) (goodIn_sub (fun _ h => List.mem_cons_of_mem _ (List.mem_append_left _ (List.mem_append_left _ (List.mem_append_right _ h)))) (by decide +kernel))
set_option maxRecDepth 20000 in
theorem gX4_fill_X4_takeFromStock : GoodIn wsX4_fill (wsV RX4 130 RX4 yX4_takeFromStock wsX4_takeFromStock) := goodIn_app (goodIn_of _ (by decide +kernel)) ggX4_fill_X4_takeFromStock
set_option maxRecDepth 20000 in
theorem ggX4_fill_X0_fillWith : GoodIn wsX4_fill wsX0_fillWith := goodIn_r _ [54, 55, 56, 57, 58, 59, 60, 61, 62, 63, 64, 65, 66, 67, 68, 69, 70, 71, 72] (by decide +kernel) (by decide +kernel)
set_option maxRecDepth 20000 in
theorem gX4_fill_X0_fillWith : GoodIn wsX4_fill (wsV RX4 133 RX0 yX0_fillWith wsX0_fillWith) := goodIn_app (goodIn_of _ (by decide +kernel)) ggX4_fill_X0_fillWith
theorem dX4_fill_0 : decode cX4_fill 0 = .ok (.aload_n 0, 1) := by decide +kernel
theorem dX4_fill_1 : decode cX4_fill 1 = .ok (.iload_n 1, 1) := by decide +kernel
theorem dX4_fill_2 : decode cX4_fill 2 = .ok (.invokevirtual 112, 3) := by decide +kernel
theorem dX4_fill_5 : decode cX4_fill 5 = .ok (.astore 4, 2) := by decide +kernel
theorem dX4_fill_7 : decode cX4_fill 7 = .ok (.iload_n 2, 1) := by decide +kernel
theorem dX4_fill_8 : decode cX4_fill 8 = .ok (.bipush 109, 2) := by decide +kernel
theorem dX4_fill_10 : decode cX4_fill 10 = .ok (.bipush 115, 2) := by decide +kernel
theorem dX4_fill_12 : decode cX4_fill 12 = .ok (.invokestatic 90, 3) := by decide +kernel
theorem dX4_fill_15 : decode cX4_fill 15 = .ok (.iload_n 3, 1) := by decide +kernel
theorem dX4_fill_16 : decode cX4_fill 16 = .ok (.invokestatic 57, 3) := by decide +kernel
theorem dX4_fill_19 : decode cX4_fill 19 = .ok (.aload 4, 2) := by decide +kernel
theorem dX4_fill_21 : decode cX4_fill 21 = .ok (.getfield 116, 3) := by decide +kernel
theorem dX4_fill_24 : decode cX4_fill 24 = .ok (.ifCond .ne 11, 3) := by decide +kernel
theorem dX4_fill_27 : decode cX4_fill 27 = .ok (.aload 4, 2) := by decide +kernel
theorem dX4_fill_29 : decode cX4_fill 29 = .ok (.getfield 119, 3) := by decide +kernel
theorem dX4_fill_32 : decode cX4_fill 32 = .ok (.ifCond .eq 13, 3) := by decide +kernel
theorem dX4_fill_35 : decode cX4_fill 35 = .ok (.new 122, 3) := by decide +kernel
theorem dX4_fill_38 : decode cX4_fill 38 = .ok (.dup, 1) := by decide +kernel
theorem dX4_fill_39 : decode cX4_fill 39 = .ok (.ldc 124, 2) := by decide +kernel
theorem dX4_fill_41 : decode cX4_fill 41 = .ok (.invokespecial 126, 3) := by decide +kernel
theorem dX4_fill_44 : decode cX4_fill 44 = .ok (.athrow, 1) := by decide +kernel
theorem dX4_fill_45 : decode cX4_fill 45 = .ok (.aload 4, 2) := by decide +kernel
theorem dX4_fill_47 : decode cX4_fill 47 = .ok (.iload_n 3, 1) := by decide +kernel
theorem dX4_fill_48 : decode cX4_fill 48 = .ok (.invokevirtual 127, 3) := by decide +kernel
theorem dX4_fill_51 : decode cX4_fill 51 = .ok (.istore 5, 2) := by decide +kernel
theorem dX4_fill_53 : decode cX4_fill 53 = .ok (.iload_n 2, 1) := by decide +kernel
theorem dX4_fill_54 : decode cX4_fill 54 = .ok (.bipush 109, 2) := by decide +kernel
theorem dX4_fill_56 : decode cX4_fill 56 = .ok (.if_icmp .ne 9, 3) := by decide +kernel
theorem dX4_fill_59 : decode cX4_fill 59 = .ok (.aload_n 0, 1) := by decide +kernel
theorem dX4_fill_60 : decode cX4_fill 60 = .ok (.iload 5, 2) := by decide +kernel
theorem dX4_fill_62 : decode cX4_fill 62 = .ok (.invokevirtual 130, 3) := by decide +kernel
theorem dX4_fill_65 : decode cX4_fill 65 = .ok (.aload 4, 2) := by decide +kernel
theorem dX4_fill_67 : decode cX4_fill 67 = .ok (.iload_n 2, 1) := by decide +kernel
theorem dX4_fill_68 : decode cX4_fill 68 = .ok (.iload 5, 2) := by decide +kernel
theorem dX4_fill_70 : decode cX4_fill 70 = .ok (.invokevirtual 133, 3) := by decide +kernel
theorem dX4_fill_73 : decode cX4_fill 73 = .ok (.iload 5, 2) := by decide +kernel
theorem dX4_fill_75 : decode cX4_fill 75 = .ok (.ireturn, 1) := by decide +kernel
set_option maxRecDepth 20000 in
theorem ggX4_smash_X4_instrumentNumbered : GoodIn wsX4_smash wsX4_instrumentNumbered := goodIn_ca (goodIn_r _ [8, 9, 10, 11, 40, 41, 42, 43, 44, 45, 46, 47, 48] (by decide +kernel) (by decide +kernel)) (goodIn_sub (fun _ h => List.mem_cons_of_mem _ (List.mem_append_right _ h)) (by decide +kernel))
set_option maxRecDepth 20000 in
theorem gX4_smash_X4_instrumentNumbered : GoodIn wsX4_smash (wsV RX4 112 RX4 yX4_instrumentNumbered wsX4_instrumentNumbered) := goodIn_app (goodIn_of _ (by decide +kernel)) ggX4_smash_X4_instrumentNumbered
set_option maxRecDepth 20000 in
theorem ggX4_smash_X0_mercuryInside : GoodIn wsX4_smash wsX0_mercuryInside := goodIn_r _ [16, 17, 18, 25, 26, 27, 28, 29, 30, 31, 32, 33, 34, 35, 36, 37, 38, 39] (by decide +kernel) (by decide +kernel)
set_option maxRecDepth 20000 in
theorem gX4_smash_X0_mercuryInside : GoodIn wsX4_smash (wsV RX4 145 RX0 yX0_mercuryInside wsX0_mercuryInside) := goodIn_app (goodIn_of _ (by decide +kernel)) ggX4_smash_X0_mercuryInside
set_option maxRecDepth 20000 in
theorem ggX4_smash_X0_breakUp : GoodIn wsX4_smash wsX0_breakUp := goodIn_r _ [22, 23, 24, 18, 25, 26, 27, 28, 29, 30, 31, 32, 33, 34, 35, 36, 37, 38, 39] (by decide +kernel) (by decide +kernel)
set_option maxRecDepth 20000 in
theorem gX4_smash_X0_breakUp : GoodIn wsX4_smash (wsV RX4 148 RX0 yX0_breakUp wsX0_breakUp) := goodIn_app (goodIn_of _ (by decide +kernel)) ggX4_smash_X0_breakUp
theorem dX4_smash_0 : decode cX4_smash 0 = .ok (.aload_n 0, 1) := by decide +kernel
theorem dX4_smash_1 : decode cX4_smash 1 = .ok (.iload_n 1, 1) := by decide +kernel
theorem dX4_smash_2 : decode cX4_smash 2 = .ok (.invokevirtual 112, 3) := by decide +kernel
theorem dX4_smash_5 : decode cX4_smash 5 = .ok (.astore_n 2, 1) := by decide +kernel
theorem dX4_smash_6 : decode cX4_smash 6 = .ok (.aload_n 2, 1) := by decide +kernel
theorem dX4_smash_7 : decode cX4_smash 7 = .ok (.getfield 119, 3) := by decide +kernel
theorem dX4_smash_10 : decode cX4_smash 10 = .ok (.ifCond .eq 13, 3) := by decide +kernel
theorem dX4_smash_13 : decode cX4_smash 13 = .ok (.new 122, 3) := by decide +kernel
theorem dX4_smash_16 : decode cX4_smash 16 = .ok (.dup, 1) := by decide +kernel
theorem dX4_smash_17 : decode cX4_smash 17 = .ok (.ldc 137, 2) := by decide +kernel
theorem dX4_smash_19 : decode cX4_smash 19 = .ok (.invokespecial 126, 3) := by decide +kernel
theorem dX4_smash_22 : decode cX4_smash 22 = .ok (.athrow, 1) := by decide +kernel
theorem dX4_smash_23 : decode cX4_smash 23 = .ok (.aload_n 2, 1) := by decide +kernel
theorem dX4_smash_24 : decode cX4_smash 24 = .ok (.getfield 139, 3) := by decide +kernel
theorem dX4_smash_27 : decode cX4_smash 27 = .ok (.istore_n 3, 1) := by decide +kernel
theorem dX4_smash_28 : decode cX4_smash 28 = .ok (.aload_n 0, 1) := by decide +kernel
theorem dX4_smash_29 : decode cX4_smash 29 = .ok (.dup, 1) := by decide +kernel
theorem dX4_smash_30 : decode cX4_smash 30 = .ok (.getfield 142, 3) := by decide +kernel
theorem dX4_smash_33 : decode cX4_smash 33 = .ok (.aload_n 2, 1) := by decide +kernel
theorem dX4_smash_34 : decode cX4_smash 34 = .ok (.invokevirtual 145, 3) := by decide +kernel
theorem dX4_smash_37 : decode cX4_smash 37 = .ok (.iadd, 1) := by decide +kernel
theorem dX4_smash_38 : decode cX4_smash 38 = .ok (.putfield 142, 3) := by decide +kernel
theorem dX4_smash_41 : decode cX4_smash 41 = .ok (.aload_n 2, 1) := by decide +kernel
theorem dX4_smash_42 : decode cX4_smash 42 = .ok (.invokevirtual 148, 3) := by decide +kernel
theorem dX4_smash_45 : decode cX4_smash 45 = .ok (.iload_n 3, 1) := by decide +kernel
theorem dX4_smash_46 : decode cX4_smash 46 = .ok (.ireturn, 1) := by decide +kernel
set_option maxRecDepth 20000 in
theorem ggX4_inside_X4_instrumentNumbered : GoodIn wsX4_inside wsX4_instrumentNumbered := goodIn_ca (goodIn_r _ [5, 6, 7, 8, 24, 25, 26, 27, 28, 29, 30, 31, 32] (by decide +kernel) (by decide +kernel)) (goodIn_sub (fun _ h => List.mem_cons_of_mem _ (List.mem_append_right _ h)) (by decide +kernel))
set_option maxRecDepth 20000 in
theorem gX4_inside_X4_instrumentNumbered : GoodIn wsX4_inside (wsV RX4 112 RX4 yX4_instrumentNumbered wsX4_instrumentNumbered) := goodIn_app (goodIn_of _ (by decide +kernel)) ggX4_inside_X4_instrumentNumbered
theorem dX4_inside_0 : decode cX4_inside 0 = .ok (.aload_n 0, 1) := by decide +kernel
theorem dX4_inside_1 : decode cX4_inside 1 = .ok (.iload_n 1, 1) := by decide +kernel
theorem dX4_inside_2 : decode cX4_inside 2 = .ok (.invokevirtual 112, 3) := by decide +kernel
theorem dX4_inside_5 : decode cX4_inside 5 = .ok (.getfield 139, 3) := by decide +kernel
theorem dX4_inside_8 : decode cX4_inside 8 = .ok (.ireturn, 1) := by decide +kernel
set_option maxRecDepth 20000 in
theorem ggX4_crept_X4_instrumentNumbered : GoodIn wsX4_crept wsX4_instrumentNumbered := goodIn_ca (goodIn_r _ [5, 6, 7, 8, 24, 25, 26, 27, 28, 29, 30, 31, 32] (by decide +kernel) (by decide +kernel)) (goodIn_sub (fun _ h => List.mem_cons_of_mem _ (List.mem_append_right _ h)) (by decide +kernel))
set_option maxRecDepth 20000 in
theorem gX4_crept_X4_instrumentNumbered : GoodIn wsX4_crept (wsV RX4 112 RX4 yX4_instrumentNumbered wsX4_instrumentNumbered) := goodIn_app (goodIn_of _ (by decide +kernel)) ggX4_crept_X4_instrumentNumbered
theorem dX4_crept_0 : decode cX4_crept 0 = .ok (.aload_n 0, 1) := by decide +kernel
theorem dX4_crept_1 : decode cX4_crept 1 = .ok (.iload_n 1, 1) := by decide +kernel
theorem dX4_crept_2 : decode cX4_crept 2 = .ok (.invokevirtual 112, 3) := by decide +kernel
theorem dX4_crept_5 : decode cX4_crept 5 = .ok (.getfield 151, 3) := by decide +kernel
theorem dX4_crept_8 : decode cX4_crept 8 = .ok (.ireturn, 1) := by decide +kernel
set_option maxRecDepth 20000 in
theorem ggX4_days_X4_demandRange : GoodIn wsX4_days wsX4_demandRange := goodIn_ca (goodIn_r _ [8, 9, 10] (by decide +kernel) (by decide +kernel)) (goodIn_sub (fun _ h => List.mem_cons_of_mem _ (List.mem_append_right _ h)) (by decide +kernel))
set_option maxRecDepth 20000 in
theorem gX4_days_X4_demandRange : GoodIn wsX4_days (va_wsS RX4 25 yX4_demandRange wsX4_demandRange) := goodIn_app (goodIn_of _ (by decide +kernel)) ggX4_days_X4_demandRange
set_option maxRecDepth 20000 in
theorem ggX4_days_X0_creep : GoodIn wsX4_days wsX0_creep := goodIn_r _ [15, 16, 17, 18, 19, 14, 20, 21, 22, 32, 33, 34, 35, 36, 37, 38, 39, 40, 41, 42, 43, 44, 45, 46] (by decide +kernel) (by decide +kernel)
set_option maxRecDepth 20000 in
theorem gX4_days_X0_creep : GoodIn wsX4_days (wsV RX4 159 RX0 yX0_creep wsX0_creep) := goodIn_app (goodIn_of _ (by decide +kernel)) ggX4_days_X0_creep
theorem dX4_days_0 : decode cX4_days 0 = .ok (.iload_n 1, 1) := by decide +kernel
theorem dX4_days_1 : decode cX4_days 1 = .ok (.iconst 1, 1) := by decide +kernel
theorem dX4_days_2 : decode cX4_days 2 = .ok (.sipush 999, 3) := by decide +kernel
theorem dX4_days_5 : decode cX4_days 5 = .ok (.invokestatic 25, 3) := by decide +kernel
theorem dX4_days_8 : decode cX4_days 8 = .ok (.aload_n 0, 1) := by decide +kernel
theorem dX4_days_9 : decode cX4_days 9 = .ok (.getfield 154, 3) := by decide +kernel
theorem dX4_days_12 : decode cX4_days 12 = .ok (.iload_n 1, 1) := by decide +kernel
theorem dX4_days_13 : decode cX4_days 13 = .ok (.iadd, 1) := by decide +kernel
theorem dX4_days_14 : decode cX4_days 14 = .ok (.sipush 9999, 3) := by decide +kernel
theorem dX4_days_17 : decode cX4_days 17 = .ok (.if_icmp .le 13, 3) := by decide +kernel
theorem dX4_days_20 : decode cX4_days 20 = .ok (.new 32, 3) := by decide +kernel
theorem dX4_days_23 : decode cX4_days 23 = .ok (.dup, 1) := by decide +kernel
theorem dX4_days_24 : decode cX4_days 24 = .ok (.ldc 157, 2) := by decide +kernel
theorem dX4_days_26 : decode cX4_days 26 = .ok (.invokespecial 36, 3) := by decide +kernel
theorem dX4_days_29 : decode cX4_days 29 = .ok (.athrow, 1) := by decide +kernel
theorem dX4_days_30 : decode cX4_days 30 = .ok (.aload_n 0, 1) := by decide +kernel
theorem dX4_days_31 : decode cX4_days 31 = .ok (.dup, 1) := by decide +kernel
theorem dX4_days_32 : decode cX4_days 32 = .ok (.getfield 154, 3) := by decide +kernel
theorem dX4_days_35 : decode cX4_days 35 = .ok (.iload_n 1, 1) := by decide +kernel
theorem dX4_days_36 : decode cX4_days 36 = .ok (.iadd, 1) := by decide +kernel
theorem dX4_days_37 : decode cX4_days 37 = .ok (.putfield 154, 3) := by decide +kernel
theorem dX4_days_40 : decode cX4_days 40 = .ok (.aload_n 0, 1) := by decide +kernel
theorem dX4_days_41 : decode cX4_days 41 = .ok (.getfield 17, 3) := by decide +kernel
theorem dX4_days_44 : decode cX4_days 44 = .ok (.astore_n 2, 1) := by decide +kernel
theorem dX4_days_45 : decode cX4_days 45 = .ok (.aload_n 2, 1) := by decide +kernel
theorem dX4_days_46 : decode cX4_days 46 = .ok (.arraylength, 1) := by decide +kernel
theorem dX4_days_47 : decode cX4_days 47 = .ok (.istore_n 3, 1) := by decide +kernel
theorem dX4_days_48 : decode cX4_days 48 = .ok (.iconst 0, 1) := by decide +kernel
theorem dX4_days_49 : decode cX4_days 49 = .ok (.istore 4, 2) := by decide +kernel
theorem dX4_days_51 : decode cX4_days 51 = .ok (.iload 4, 2) := by decide +kernel
theorem dX4_days_53 : decode cX4_days 53 = .ok (.iload_n 3, 1) := by decide +kernel
theorem dX4_days_54 : decode cX4_days 54 = .ok (.if_icmp .ge 26, 3) := by decide +kernel
theorem dX4_days_57 : decode cX4_days 57 = .ok (.aload_n 2, 1) := by decide +kernel
theorem dX4_days_58 : decode cX4_days 58 = .ok (.iload 4, 2) := by decide +kernel
theorem dX4_days_60 : decode cX4_days 60 = .ok (.aaload, 1) := by decide +kernel
theorem dX4_days_61 : decode cX4_days 61 = .ok (.astore 5, 2) := by decide +kernel
theorem dX4_days_63 : decode cX4_days 63 = .ok (.aload 5, 2) := by decide +kernel
theorem dX4_days_65 : decode cX4_days 65 = .ok (.ifnull 9, 3) := by decide +kernel
theorem dX4_days_68 : decode cX4_days 68 = .ok (.aload 5, 2) := by decide +kernel
theorem dX4_days_70 : decode cX4_days 70 = .ok (.iload_n 1, 1) := by decide +kernel
theorem dX4_days_71 : decode cX4_days 71 = .ok (.invokevirtual 159, 3) := by decide +kernel
theorem dX4_days_74 : decode cX4_days 74 = .ok (.iinc 4 1, 3) := by decide +kernel
theorem dX4_days_77 : decode cX4_days 77 = .ok (.goto (-26), 3) := by decide +kernel
theorem dX4_days_80 : decode cX4_days 80 = .ok (.aload_n 0, 1) := by decide +kernel
theorem dX4_days_81 : decode cX4_days 81 = .ok (.getfield 154, 3) := by decide +kernel
theorem dX4_days_84 : decode cX4_days 84 = .ok (.ireturn, 1) := by decide +kernel
set_option maxRecDepth 20000 in
theorem ggX4_air_X4_demandTemperature : GoodIn wsX4_air wsX4_demandTemperature := goodIn_ca (goodIn_r _ [5, 6, 7, 4, 8, 9, 10] (by decide +kernel) (by decide +kernel)) (goodIn_sub (fun _ h => List.mem_cons_of_mem _ (List.mem_append_right _ h)) (by decide +kernel))
set_option maxRecDepth 20000 in
theorem gX4_air_X4_demandTemperature : GoodIn wsX4_air (va_wsS RX4 162 yX4_demandTemperature wsX4_demandTemperature) := goodIn_app (goodIn_of _ (by decide +kernel)) ggX4_air_X4_demandTemperature
theorem dX4_air_0 : decode cX4_air 0 = .ok (.iload_n 1, 1) := by decide +kernel
theorem dX4_air_1 : decode cX4_air 1 = .ok (.invokestatic 162, 3) := by decide +kernel
theorem dX4_air_4 : decode cX4_air 4 = .ok (.aload_n 0, 1) := by decide +kernel
theorem dX4_air_5 : decode cX4_air 5 = .ok (.getfield 21, 3) := by decide +kernel
theorem dX4_air_8 : decode cX4_air 8 = .ok (.istore_n 2, 1) := by decide +kernel
theorem dX4_air_9 : decode cX4_air 9 = .ok (.aload_n 0, 1) := by decide +kernel
theorem dX4_air_10 : decode cX4_air 10 = .ok (.iload_n 1, 1) := by decide +kernel
theorem dX4_air_11 : decode cX4_air 11 = .ok (.putfield 21, 3) := by decide +kernel
theorem dX4_air_14 : decode cX4_air 14 = .ok (.iload_n 2, 1) := by decide +kernel
theorem dX4_air_15 : decode cX4_air 15 = .ok (.ireturn, 1) := by decide +kernel
set_option maxRecDepth 20000 in
theorem ggX4_level_X4_instrumentNumbered : GoodIn wsX4_level wsX4_instrumentNumbered := goodIn_ca (goodIn_r _ [5, 6, 7, 8, 80, 81, 82, 83, 84, 85, 86, 87, 88] (by decide +kernel) (by decide +kernel)) (goodIn_sub (fun _ h => List.mem_cons_of_mem _ (List.mem_append_left _ (List.mem_append_left _ (List.mem_append_left _ (List.mem_append_right _ h))))) (by decide +kernel))
set_option maxRecDepth 20000 in
theorem gX4_level_X4_instrumentNumbered : GoodIn wsX4_level (wsV RX4 112 RX4 yX4_instrumentNumbered wsX4_instrumentNumbered) := goodIn_app (goodIn_of _ (by decide +kernel)) ggX4_level_X4_instrumentNumbered
set_option maxRecDepth 20000 in
theorem ggX4_level_X4_demandTemperature : GoodIn wsX4_level wsX4_demandTemperature := goodIn_ca (goodIn_r _ [11, 12, 13, 4, 14, 15, 16] (by decide +kernel) (by decide +kernel)) (goodIn_sub (fun _ h => List.mem_cons_of_mem _ (List.mem_append_left _ (List.mem_append_left _ (List.mem_append_right _ h)))) (by decide +kernel))
set_option maxRecDepth 20000 in
theorem gX4_level_X4_demandTemperature : GoodIn wsX4_level (va_wsS RX4 162 yX4_demandTemperature wsX4_demandTemperature) := goodIn_app (goodIn_of _ (by decide +kernel)) ggX4_level_X4_demandTemperature
set_option maxRecDepth 20000 in
theorem ggX4_level_X4_demandPlace : GoodIn wsX4_level wsX4_demandPlace := goodIn_ca (goodIn_r _ [19, 12, 13, 4, 14, 15, 16] (by decide +kernel) (by decide +kernel)) (goodIn_sub (fun _ h => List.mem_cons_of_mem _ (List.mem_append_left _ (List.mem_append_left _ (List.mem_append_right _ h)))) (by decide +kernel))
set_option maxRecDepth 20000 in
theorem gX4_level_X4_demandPlace : GoodIn wsX4_level (va_wsS RX4 57 yX4_demandPlace wsX4_demandPlace) := goodIn_app (goodIn_of _ (by decide +kernel)) ggX4_level_X4_demandPlace
set_option maxRecDepth 20000 in
theorem ggX4_level_X4_demandFilled : GoodIn wsX4_level wsX4_demandFilled := goodIn_ca (goodIn_r _ [22, 23, 24, 89, 90, 91, 92, 93, 94, 95, 96, 97, 98, 99, 100, 101, 102, 103] (by decide +kernel) (by decide +kernel)) (goodIn_sub (fun _ h => List.mem_cons_of_mem _ (List.mem_append_left _ (List.mem_append_right _ h))) (by decide +kernel))
set_option maxRecDepth 20000 in
theorem gX4_level_X4_demandFilled : GoodIn wsX4_level (va_wsS RX4 165 yX4_demandFilled wsX4_demandFilled) := goodIn_app (goodIn_of _ (by decide +kernel)) ggX4_level_X4_demandFilled
set_option maxRecDepth 20000 in
theorem ggX4_level_X4_levelFound : GoodIn wsX4_level wsX4_levelFound := goodIn_ca (goodIn_r _ [28, 29, 30, 31, 32, 33, 34, 35, 36, 37, 38, 39, 40, 41, 42, 43, 44, 45, 46, 47, 48, 49, 50, 51, 52, 53, 54, 55, 56, 57, 58, 59, 60, 61, 62, 63, 64, 65, 66, 67, 68, 69, 70, 71, 72, 73, 74, 75, 76, 77, 78, 79, 80, 81, 82, 83, 84, 85, 86, 87, 88, 89, 90, 91, 92, 93, 94, 95, 96, 97, 98, 99, 100, 101, 102, 103, 104, 105] (by decide +kernel) (by decide +kernel)) (goodIn_sub (fun _ h => List.mem_cons_of_mem _ (List.mem_append_right _ h)) (by decide +kernel))
set_option maxRecDepth 20000 in
theorem gX4_level_X4_levelFound : GoodIn wsX4_level (wsV RX4 169 RX4 yX4_levelFound wsX4_levelFound) := goodIn_app (goodIn_of _ (by decide +kernel)) ggX4_level_X4_levelFound
theorem dX4_level_0 : decode cX4_level 0 = .ok (.aload_n 0, 1) := by decide +kernel
theorem dX4_level_1 : decode cX4_level 1 = .ok (.iload_n 1, 1) := by decide +kernel
theorem dX4_level_2 : decode cX4_level 2 = .ok (.invokevirtual 112, 3) := by decide +kernel
theorem dX4_level_5 : decode cX4_level 5 = .ok (.astore 4, 2) := by decide +kernel
theorem dX4_level_7 : decode cX4_level 7 = .ok (.iload_n 2, 1) := by decide +kernel
theorem dX4_level_8 : decode cX4_level 8 = .ok (.invokestatic 162, 3) := by decide +kernel
theorem dX4_level_11 : decode cX4_level 11 = .ok (.iload_n 3, 1) := by decide +kernel
theorem dX4_level_12 : decode cX4_level 12 = .ok (.invokestatic 57, 3) := by decide +kernel
theorem dX4_level_15 : decode cX4_level 15 = .ok (.aload 4, 2) := by decide +kernel
theorem dX4_level_17 : decode cX4_level 17 = .ok (.invokestatic 165, 3) := by decide +kernel
theorem dX4_level_20 : decode cX4_level 20 = .ok (.aload_n 0, 1) := by decide +kernel
theorem dX4_level_21 : decode cX4_level 21 = .ok (.aload 4, 2) := by decide +kernel
theorem dX4_level_23 : decode cX4_level 23 = .ok (.iload_n 2, 1) := by decide +kernel
theorem dX4_level_24 : decode cX4_level 24 = .ok (.iload_n 3, 1) := by decide +kernel
theorem dX4_level_25 : decode cX4_level 25 = .ok (.invokevirtual 169, 3) := by decide +kernel
theorem dX4_level_28 : decode cX4_level 28 = .ok (.ireturn, 1) := by decide +kernel
set_option maxRecDepth 20000 in
theorem ggX4_ice_X4_instrumentNumbered : GoodIn wsX4_ice wsX4_instrumentNumbered := goodIn_ca (goodIn_r _ [5, 6, 7, 8, 91, 92, 93, 94, 95, 96, 97, 98, 99] (by decide +kernel) (by decide +kernel)) (goodIn_sub (fun _ h => List.mem_cons_of_mem _ (List.mem_append_left _ (List.mem_append_left _ (List.mem_append_right _ h)))) (by decide +kernel))
set_option maxRecDepth 20000 in
theorem gX4_ice_X4_instrumentNumbered : GoodIn wsX4_ice (wsV RX4 112 RX4 yX4_instrumentNumbered wsX4_instrumentNumbered) := goodIn_app (goodIn_of _ (by decide +kernel)) ggX4_ice_X4_instrumentNumbered
set_option maxRecDepth 20000 in
theorem ggX4_ice_X4_demandFilled : GoodIn wsX4_ice wsX4_demandFilled := goodIn_ca (goodIn_r _ [11, 12, 13, 76, 77, 78, 79, 80, 81, 82, 83, 84, 85, 86, 87, 88, 89, 90] (by decide +kernel) (by decide +kernel)) (goodIn_sub (fun _ h => List.mem_cons_of_mem _ (List.mem_append_left _ (List.mem_append_right _ h))) (by decide +kernel))
set_option maxRecDepth 20000 in
theorem gX4_ice_X4_demandFilled : GoodIn wsX4_ice (va_wsS RX4 165 yX4_demandFilled wsX4_demandFilled) := goodIn_app (goodIn_of _ (by decide +kernel)) ggX4_ice_X4_demandFilled
set_option maxRecDepth 20000 in
theorem ggX4_ice_X4_levelFound : GoodIn wsX4_ice wsX4_levelFound := goodIn_ca (goodIn_r _ [17, 18, 19, 20, 21, 22, 23, 24, 25, 26, 27, 28, 29, 30, 31, 32, 33, 34, 35, 36, 37, 38, 39, 40, 41, 42, 43, 44, 45, 46, 47, 48, 49, 50, 51, 52, 53, 54, 55, 56, 57, 58, 59, 60, 61, 62, 63, 64, 65, 66, 67, 68, 91, 92, 93, 94, 95, 96, 97, 98, 99, 76, 77, 78, 79, 80, 81, 82, 83, 84, 85, 86, 87, 88, 89, 90, 100, 101] (by decide +kernel) (by decide +kernel)) (goodIn_sub (fun _ h => List.mem_cons_of_mem _ (List.mem_append_right _ h)) (by decide +kernel))
set_option maxRecDepth 20000 in
theorem gX4_ice_X4_levelFound : GoodIn wsX4_ice (wsV RX4 169 RX4 yX4_levelFound wsX4_levelFound) := goodIn_app (goodIn_of _ (by decide +kernel)) ggX4_ice_X4_levelFound
set_option maxRecDepth 20000 in
theorem ggX4_ice_X2_putIce : GoodIn wsX4_ice wsX2_putIce := goodIn_r _ [73, 74, 75, 102, 103, 104, 105, 106] (by decide +kernel) (by decide +kernel)
set_option maxRecDepth 20000 in
theorem gX4_ice_X2_putIce : GoodIn wsX4_ice (wsV RX4 177 RX2 yX2_putIce wsX2_putIce) := goodIn_app (goodIn_of _ (by decide +kernel)) ggX4_ice_X2_putIce
theorem dX4_ice_0 : decode cX4_ice 0 = .ok (.aload_n 0, 1) := by decide +kernel
theorem dX4_ice_1 : decode cX4_ice 1 = .ok (.iload_n 1, 1) := by decide +kernel
theorem dX4_ice_2 : decode cX4_ice 2 = .ok (.invokevirtual 112, 3) := by decide +kernel
theorem dX4_ice_5 : decode cX4_ice 5 = .ok (.astore_n 2, 1) := by decide +kernel
theorem dX4_ice_6 : decode cX4_ice 6 = .ok (.aload_n 2, 1) := by decide +kernel
theorem dX4_ice_7 : decode cX4_ice 7 = .ok (.invokestatic 165, 3) := by decide +kernel
theorem dX4_ice_10 : decode cX4_ice 10 = .ok (.aload_n 0, 1) := by decide +kernel
theorem dX4_ice_11 : decode cX4_ice 11 = .ok (.aload_n 2, 1) := by decide +kernel
theorem dX4_ice_12 : decode cX4_ice 12 = .ok (.iconst 0, 1) := by decide +kernel
theorem dX4_ice_13 : decode cX4_ice 13 = .ok (.sipush 200, 3) := by decide +kernel
theorem dX4_ice_16 : decode cX4_ice 16 = .ok (.invokevirtual 169, 3) := by decide +kernel
theorem dX4_ice_19 : decode cX4_ice 19 = .ok (.istore_n 3, 1) := by decide +kernel
theorem dX4_ice_20 : decode cX4_ice 20 = .ok (.aload_n 2, 1) := by decide +kernel
theorem dX4_ice_21 : decode cX4_ice 21 = .ok (.getfield 173, 3) := by decide +kernel
theorem dX4_ice_24 : decode cX4_ice 24 = .ok (.iload_n 3, 1) := by decide +kernel
theorem dX4_ice_25 : decode cX4_ice 25 = .ok (.invokevirtual 177, 3) := by decide +kernel
theorem dX4_ice_28 : decode cX4_ice 28 = .ok (.iload_n 3, 1) := by decide +kernel
theorem dX4_ice_29 : decode cX4_ice 29 = .ok (.ireturn, 1) := by decide +kernel
set_option maxRecDepth 20000 in
theorem ggX4_steam_X4_instrumentNumbered : GoodIn wsX4_steam wsX4_instrumentNumbered := goodIn_ca (goodIn_r _ [5, 6, 7, 8, 103, 104, 105, 106, 107, 108, 109, 110, 111] (by decide +kernel) (by decide +kernel)) (goodIn_sub (fun _ h => List.mem_cons_of_mem _ (List.mem_append_left _ (List.mem_append_left _ (List.mem_append_left _ (List.mem_append_right _ h))))) (by decide +kernel))
set_option maxRecDepth 20000 in
theorem gX4_steam_X4_instrumentNumbered : GoodIn wsX4_steam (wsV RX4 112 RX4 yX4_instrumentNumbered wsX4_instrumentNumbered) := goodIn_app (goodIn_of _ (by decide +kernel)) ggX4_steam_X4_instrumentNumbered
set_option maxRecDepth 20000 in
theorem ggX4_steam_X4_demandPressure : GoodIn wsX4_steam wsX4_demandPressure := goodIn_ca (goodIn_r _ [11, 12, 13, 4, 14, 15, 16] (by decide +kernel) (by decide +kernel)) (goodIn_sub (fun _ h => List.mem_cons_of_mem _ (List.mem_append_left _ (List.mem_append_left _ (List.mem_append_right _ h)))) (by decide +kernel))
set_option maxRecDepth 20000 in
theorem gX4_steam_X4_demandPressure : GoodIn wsX4_steam (va_wsS RX4 182 yX4_demandPressure wsX4_demandPressure) := goodIn_app (goodIn_of _ (by decide +kernel)) ggX4_steam_X4_demandPressure
set_option maxRecDepth 20000 in
theorem ggX4_steam_X4_demandFilled : GoodIn wsX4_steam wsX4_demandFilled := goodIn_ca (goodIn_r _ [19, 20, 21, 88, 89, 90, 91, 92, 93, 94, 95, 96, 97, 98, 99, 100, 101, 102] (by decide +kernel) (by decide +kernel)) (goodIn_sub (fun _ h => List.mem_cons_of_mem _ (List.mem_append_left _ (List.mem_append_right _ h))) (by decide +kernel))
set_option maxRecDepth 20000 in
theorem gX4_steam_X4_demandFilled : GoodIn wsX4_steam (va_wsS RX4 165 yX4_demandFilled wsX4_demandFilled) := goodIn_app (goodIn_of _ (by decide +kernel)) ggX4_steam_X4_demandFilled
set_option maxRecDepth 20000 in
theorem ggX4_steam_X4_steamAt : GoodIn wsX4_steam wsX4_steamAt := goodIn_r _ [24] (by decide +kernel) (by decide +kernel)
set_option maxRecDepth 20000 in
theorem gX4_steam_X4_steamAt : GoodIn wsX4_steam (va_wsS RX4 185 yX4_steamAt wsX4_steamAt) := goodIn_app (goodIn_of _ (by decide +kernel)) ggX4_steam_X4_steamAt
set_option maxRecDepth 20000 in
theorem ggX4_steam_X4_levelFound : GoodIn wsX4_steam wsX4_levelFound := goodIn_ca (goodIn_r _ [28, 29, 30, 31, 32, 33, 34, 35, 36, 37, 38, 39, 40, 41, 42, 43, 44, 45, 46, 47, 48, 49, 50, 51, 52, 53, 54, 55, 56, 57, 58, 59, 60, 61, 62, 63, 64, 65, 66, 67, 68, 69, 70, 71, 72, 73, 74, 75, 76, 77, 78, 79, 103, 104, 105, 106, 107, 108, 109, 110, 111, 88, 89, 90, 91, 92, 93, 94, 95, 96, 97, 98, 99, 100, 101, 102, 112, 113] (by decide +kernel) (by decide +kernel)) (goodIn_sub (fun _ h => List.mem_cons_of_mem _ (List.mem_append_right _ h)) (by decide +kernel))
set_option maxRecDepth 20000 in
theorem gX4_steam_X4_levelFound : GoodIn wsX4_steam (wsV RX4 169 RX4 yX4_levelFound wsX4_levelFound) := goodIn_app (goodIn_of _ (by decide +kernel)) ggX4_steam_X4_levelFound
set_option maxRecDepth 20000 in
theorem ggX4_steam_X2_putSteam : GoodIn wsX4_steam wsX2_putSteam := goodIn_r _ [84, 85, 86, 87, 114, 115, 116, 117, 118] (by decide +kernel) (by decide +kernel)
set_option maxRecDepth 20000 in
theorem gX4_steam_X2_putSteam : GoodIn wsX4_steam (wsV RX4 188 RX2 yX2_putSteam wsX2_putSteam) := goodIn_app (goodIn_of _ (by decide +kernel)) ggX4_steam_X2_putSteam
theorem dX4_steam_0 : decode cX4_steam 0 = .ok (.aload_n 0, 1) := by decide +kernel
theorem dX4_steam_1 : decode cX4_steam 1 = .ok (.iload_n 1, 1) := by decide +kernel
theorem dX4_steam_2 : decode cX4_steam 2 = .ok (.invokevirtual 112, 3) := by decide +kernel
theorem dX4_steam_5 : decode cX4_steam 5 = .ok (.astore_n 3, 1) := by decide +kernel
theorem dX4_steam_6 : decode cX4_steam 6 = .ok (.iload_n 2, 1) := by decide +kernel
theorem dX4_steam_7 : decode cX4_steam 7 = .ok (.invokestatic 182, 3) := by decide +kernel
theorem dX4_steam_10 : decode cX4_steam 10 = .ok (.aload_n 3, 1) := by decide +kernel
theorem dX4_steam_11 : decode cX4_steam 11 = .ok (.invokestatic 165, 3) := by decide +kernel
theorem dX4_steam_14 : decode cX4_steam 14 = .ok (.iload_n 2, 1) := by decide +kernel
theorem dX4_steam_15 : decode cX4_steam 15 = .ok (.invokestatic 185, 3) := by decide +kernel
theorem dX4_steam_18 : decode cX4_steam 18 = .ok (.istore 4, 2) := by decide +kernel
theorem dX4_steam_20 : decode cX4_steam 20 = .ok (.aload_n 3, 1) := by decide +kernel
theorem dX4_steam_21 : decode cX4_steam 21 = .ok (.getfield 173, 3) := by decide +kernel
theorem dX4_steam_24 : decode cX4_steam 24 = .ok (.aload_n 0, 1) := by decide +kernel
theorem dX4_steam_25 : decode cX4_steam 25 = .ok (.aload_n 3, 1) := by decide +kernel
theorem dX4_steam_26 : decode cX4_steam 26 = .ok (.iload 4, 2) := by decide +kernel
theorem dX4_steam_28 : decode cX4_steam 28 = .ok (.sipush 200, 3) := by decide +kernel
theorem dX4_steam_31 : decode cX4_steam 31 = .ok (.invokevirtual 169, 3) := by decide +kernel
theorem dX4_steam_34 : decode cX4_steam 34 = .ok (.iload 4, 2) := by decide +kernel
theorem dX4_steam_36 : decode cX4_steam 36 = .ok (.invokevirtual 188, 3) := by decide +kernel
theorem dX4_steam_39 : decode cX4_steam 39 = .ok (.iload 4, 2) := by decide +kernel
theorem dX4_steam_41 : decode cX4_steam 41 = .ok (.ireturn, 1) := by decide +kernel
set_option maxRecDepth 20000 in
theorem ggX4_boiling_X4_demandPressure : GoodIn wsX4_boiling wsX4_demandPressure := goodIn_ca (goodIn_r _ [4, 5, 6, 3, 7, 8, 9] (by decide +kernel) (by decide +kernel)) (goodIn_sub (fun _ h => List.mem_cons_of_mem _ (List.mem_append_right _ h)) (by decide +kernel))
set_option maxRecDepth 20000 in
theorem gX4_boiling_X4_demandPressure : GoodIn wsX4_boiling (va_wsS RX4 182 yX4_demandPressure wsX4_demandPressure) := goodIn_app (goodIn_of _ (by decide +kernel)) ggX4_boiling_X4_demandPressure
set_option maxRecDepth 20000 in
theorem ggX4_boiling_X4_steamAt : GoodIn wsX4_boiling wsX4_steamAt := goodIn_r _ [12] (by decide +kernel) (by decide +kernel)
set_option maxRecDepth 20000 in
theorem gX4_boiling_X4_steamAt : GoodIn wsX4_boiling (va_wsS RX4 185 yX4_steamAt wsX4_steamAt) := goodIn_app (goodIn_of _ (by decide +kernel)) ggX4_boiling_X4_steamAt
theorem dX4_boiling_0 : decode cX4_boiling 0 = .ok (.iload_n 1, 1) := by decide +kernel
theorem dX4_boiling_1 : decode cX4_boiling 1 = .ok (.invokestatic 182, 3) := by decide +kernel
theorem dX4_boiling_4 : decode cX4_boiling 4 = .ok (.iload_n 1, 1) := by decide +kernel
theorem dX4_boiling_5 : decode cX4_boiling 5 = .ok (.invokestatic 185, 3) := by decide +kernel
theorem dX4_boiling_8 : decode cX4_boiling 8 = .ok (.ireturn, 1) := by decide +kernel
set_option maxRecDepth 20000 in
theorem ggX4_divide_X4_instrumentNumbered : GoodIn wsX4_divide wsX4_instrumentNumbered := goodIn_ca (goodIn_r _ [7, 8, 9, 10, 50, 51, 52, 53, 54, 55, 56, 57, 58] (by decide +kernel) (by decide +kernel)) (goodIn_sub (fun _ h => List.mem_cons_of_mem _ (List.mem_append_left _ (List.mem_append_right _ h))) (by decide +kernel))
set_option maxRecDepth 20000 in
theorem gX4_divide_X4_instrumentNumbered : GoodIn wsX4_divide (wsV RX4 112 RX4 yX4_instrumentNumbered wsX4_instrumentNumbered) := goodIn_app (goodIn_of _ (by decide +kernel)) ggX4_divide_X4_instrumentNumbered
set_option maxRecDepth 20000 in
theorem ggX4_divide_X4_demandEither : GoodIn wsX4_divide wsX4_demandEither := goodIn_ca (goodIn_r _ [13, 14, 15] (by decide +kernel) (by decide +kernel)) (goodIn_sub (fun _ h => List.mem_cons_of_mem _ (List.mem_append_right _ h)) (by decide +kernel))
set_option maxRecDepth 20000 in
theorem gX4_divide_X4_demandEither : GoodIn wsX4_divide (va_wsS RX4 90 yX4_demandEither wsX4_demandEither) := goodIn_app (goodIn_of _ (by decide +kernel)) ggX4_divide_X4_demandEither
set_option maxRecDepth 20000 in
theorem ggX4_divide_X4_demandFilled : GoodIn wsX4_divide wsX4_demandFilled := goodIn_ca (goodIn_r _ [18, 1, 2, 30, 31, 32, 33, 34, 35, 36, 37, 38, 39, 40, 41, 42, 43, 44] (by decide +kernel) (by decide +kernel)) (goodIn_sub (fun _ h => List.mem_cons_of_mem _ (List.mem_append_left _ (List.mem_append_left _ (List.mem_append_right _ h)))) (by decide +kernel))
set_option maxRecDepth 20000 in
theorem gX4_divide_X4_demandFilled : GoodIn wsX4_divide (va_wsS RX4 165 yX4_demandFilled wsX4_demandFilled) := goodIn_app (goodIn_of _ (by decide +kernel)) ggX4_divide_X4_demandFilled
set_option maxRecDepth 20000 in
theorem ggX4_divide_X2_hasUnlikePoints : GoodIn wsX4_divide wsX2_hasUnlikePoints := goodIn_r _ [23, 24, 25, 45, 46, 47, 48, 49] (by decide +kernel) (by decide +kernel)
set_option maxRecDepth 20000 in
theorem gX4_divide_X2_hasUnlikePoints : GoodIn wsX4_divide (wsV RX4 191 RX2 yX2_hasUnlikePoints wsX2_hasUnlikePoints) := goodIn_app (goodIn_of _ (by decide +kernel)) ggX4_divide_X2_hasUnlikePoints
set_option maxRecDepth 20000 in
theorem ggX4_divide_X2_placesBetween : GoodIn wsX4_divide wsX2_placesBetween := goodIn_r _ [29, 25, 24, 45, 46, 47, 48, 49] (by decide +kernel) (by decide +kernel)
set_option maxRecDepth 20000 in
theorem gX4_divide_X2_placesBetween : GoodIn wsX4_divide (wsV RX4 201 RX2 yX2_placesBetween wsX2_placesBetween) := goodIn_app (goodIn_of _ (by decide +kernel)) ggX4_divide_X2_placesBetween
theorem dX4_divide_0 : decode cX4_divide 0 = .ok (.aload_n 0, 1) := by decide +kernel
theorem dX4_divide_1 : decode cX4_divide 1 = .ok (.iload_n 1, 1) := by decide +kernel
theorem dX4_divide_2 : decode cX4_divide 2 = .ok (.invokevirtual 112, 3) := by decide +kernel
theorem dX4_divide_5 : decode cX4_divide 5 = .ok (.astore_n 3, 1) := by decide +kernel
theorem dX4_divide_6 : decode cX4_divide 6 = .ok (.iload_n 2, 1) := by decide +kernel
theorem dX4_divide_7 : decode cX4_divide 7 = .ok (.bipush 108, 2) := by decide +kernel
theorem dX4_divide_9 : decode cX4_divide 9 = .ok (.bipush 118, 2) := by decide +kernel
theorem dX4_divide_11 : decode cX4_divide 11 = .ok (.invokestatic 90, 3) := by decide +kernel
theorem dX4_divide_14 : decode cX4_divide 14 = .ok (.aload_n 3, 1) := by decide +kernel
theorem dX4_divide_15 : decode cX4_divide 15 = .ok (.invokestatic 165, 3) := by decide +kernel
theorem dX4_divide_18 : decode cX4_divide 18 = .ok (.aload_n 3, 1) := by decide +kernel
theorem dX4_divide_19 : decode cX4_divide 19 = .ok (.getfield 173, 3) := by decide +kernel
theorem dX4_divide_22 : decode cX4_divide 22 = .ok (.invokevirtual 191, 3) := by decide +kernel
theorem dX4_divide_25 : decode cX4_divide 25 = .ok (.ifCond .ne 13, 3) := by decide +kernel
theorem dX4_divide_28 : decode cX4_divide 28 = .ok (.new 122, 3) := by decide +kernel
theorem dX4_divide_31 : decode cX4_divide 31 = .ok (.dup, 1) := by decide +kernel
theorem dX4_divide_32 : decode cX4_divide 32 = .ok (.ldc 195, 2) := by decide +kernel
theorem dX4_divide_34 : decode cX4_divide 34 = .ok (.invokespecial 126, 3) := by decide +kernel
theorem dX4_divide_37 : decode cX4_divide 37 = .ok (.athrow, 1) := by decide +kernel
theorem dX4_divide_38 : decode cX4_divide 38 = .ok (.aload_n 3, 1) := by decide +kernel
theorem dX4_divide_39 : decode cX4_divide 39 = .ok (.getfield 173, 3) := by decide +kernel
theorem dX4_divide_42 : decode cX4_divide 42 = .ok (.iload_n 2, 1) := by decide +kernel
theorem dX4_divide_43 : decode cX4_divide 43 = .ok (.putfield 197, 3) := by decide +kernel
theorem dX4_divide_46 : decode cX4_divide 46 = .ok (.aload_n 3, 1) := by decide +kernel
theorem dX4_divide_47 : decode cX4_divide 47 = .ok (.getfield 173, 3) := by decide +kernel
theorem dX4_divide_50 : decode cX4_divide 50 = .ok (.invokevirtual 201, 3) := by decide +kernel
theorem dX4_divide_53 : decode cX4_divide 53 = .ok (.ireturn, 1) := by decide +kernel
set_option maxRecDepth 20000 in
theorem ggX4_readsAt_X4_instrumentNumbered : GoodIn wsX4_readsAt wsX4_instrumentNumbered := goodIn_ca (goodIn_r _ [5, 6, 7, 8, 67, 68, 69, 70, 71, 72, 73, 74, 75] (by decide +kernel) (by decide +kernel)) (goodIn_sub (fun _ h => List.mem_cons_of_mem _ (List.mem_append_left _ (List.mem_append_left _ (List.mem_append_right _ h)))) (by decide +kernel))
set_option maxRecDepth 20000 in
theorem gX4_readsAt_X4_instrumentNumbered : GoodIn wsX4_readsAt (wsV RX4 112 RX4 yX4_instrumentNumbered wsX4_instrumentNumbered) := goodIn_app (goodIn_of _ (by decide +kernel)) ggX4_readsAt_X4_instrumentNumbered
set_option maxRecDepth 20000 in
theorem ggX4_readsAt_X4_demandPlace : GoodIn wsX4_readsAt wsX4_demandPlace := goodIn_ca (goodIn_r _ [11, 12, 13, 4, 14, 15, 16] (by decide +kernel) (by decide +kernel)) (goodIn_sub (fun _ h => List.mem_cons_of_mem _ (List.mem_append_left _ (List.mem_append_right _ h))) (by decide +kernel))
set_option maxRecDepth 20000 in
theorem gX4_readsAt_X4_demandPlace : GoodIn wsX4_readsAt (va_wsS RX4 57 yX4_demandPlace wsX4_demandPlace) := goodIn_app (goodIn_of _ (by decide +kernel)) ggX4_readsAt_X4_demandPlace
set_option maxRecDepth 20000 in
theorem ggX4_readsAt_X4_demandDivided : GoodIn wsX4_readsAt wsX4_demandDivided := goodIn_ca (goodIn_r _ [19, 20, 21, 52, 53, 54, 55, 56, 57, 58, 59, 60, 61, 62, 63, 64, 65, 66, 76, 77, 78, 79, 80] (by decide +kernel) (by decide +kernel)) (goodIn_sub (fun _ h => List.mem_cons_of_mem _ (List.mem_append_right _ h)) (by decide +kernel))
set_option maxRecDepth 20000 in
theorem gX4_readsAt_X4_demandDivided : GoodIn wsX4_readsAt (va_wsS RX4 204 yX4_demandDivided wsX4_demandDivided) := goodIn_app (goodIn_of _ (by decide +kernel)) ggX4_readsAt_X4_demandDivided
set_option maxRecDepth 20000 in
theorem ggX4_readsAt_X2_readingAt : GoodIn wsX4_readsAt wsX2_readingAt := goodIn_r _ [26, 27, 28, 29, 30, 31, 25, 32, 33, 34, 35, 36, 37, 38, 39, 40, 41, 42, 43, 44, 45, 46, 47, 48, 49, 50, 51, 76, 77, 78, 79, 80, 81, 82] (by decide +kernel) (by decide +kernel)
set_option maxRecDepth 20000 in
theorem gX4_readsAt_X2_readingAt : GoodIn wsX4_readsAt (wsV RX4 207 RX2 yX2_readingAt wsX2_readingAt) := goodIn_app (goodIn_of _ (by decide +kernel)) ggX4_readsAt_X2_readingAt
theorem dX4_readsAt_0 : decode cX4_readsAt 0 = .ok (.aload_n 0, 1) := by decide +kernel
theorem dX4_readsAt_1 : decode cX4_readsAt 1 = .ok (.iload_n 1, 1) := by decide +kernel
theorem dX4_readsAt_2 : decode cX4_readsAt 2 = .ok (.invokevirtual 112, 3) := by decide +kernel
theorem dX4_readsAt_5 : decode cX4_readsAt 5 = .ok (.astore_n 3, 1) := by decide +kernel
theorem dX4_readsAt_6 : decode cX4_readsAt 6 = .ok (.iload_n 2, 1) := by decide +kernel
theorem dX4_readsAt_7 : decode cX4_readsAt 7 = .ok (.invokestatic 57, 3) := by decide +kernel
theorem dX4_readsAt_10 : decode cX4_readsAt 10 = .ok (.aload_n 3, 1) := by decide +kernel
theorem dX4_readsAt_11 : decode cX4_readsAt 11 = .ok (.invokestatic 204, 3) := by decide +kernel
theorem dX4_readsAt_14 : decode cX4_readsAt 14 = .ok (.aload_n 3, 1) := by decide +kernel
theorem dX4_readsAt_15 : decode cX4_readsAt 15 = .ok (.getfield 173, 3) := by decide +kernel
theorem dX4_readsAt_18 : decode cX4_readsAt 18 = .ok (.iload_n 2, 1) := by decide +kernel
theorem dX4_readsAt_19 : decode cX4_readsAt 19 = .ok (.invokevirtual 207, 3) := by decide +kernel
theorem dX4_readsAt_22 : decode cX4_readsAt 22 = .ok (.ireturn, 1) := by decide +kernel
set_option maxRecDepth 20000 in
theorem ggX4_bath_X4_instrumentNumbered : GoodIn wsX4_bath wsX4_instrumentNumbered := goodIn_ca (goodIn_r _ [5, 6, 7, 8, 126, 127, 128, 129, 130, 131, 132, 133, 134] (by decide +kernel) (by decide +kernel)) (goodIn_sub (fun _ h => List.mem_cons_of_mem _ (List.mem_append_left _ (List.mem_append_left _ (List.mem_append_left _ (List.mem_append_right _ h))))) (by decide +kernel))
set_option maxRecDepth 20000 in
theorem gX4_bath_X4_instrumentNumbered : GoodIn wsX4_bath (wsV RX4 112 RX4 yX4_instrumentNumbered wsX4_instrumentNumbered) := goodIn_app (goodIn_of _ (by decide +kernel)) ggX4_bath_X4_instrumentNumbered
set_option maxRecDepth 20000 in
theorem ggX4_bath_X4_demandTemperature : GoodIn wsX4_bath wsX4_demandTemperature := goodIn_ca (goodIn_r _ [11, 12, 13, 4, 14, 15, 16] (by decide +kernel) (by decide +kernel)) (goodIn_sub (fun _ h => List.mem_cons_of_mem _ (List.mem_append_left _ (List.mem_append_left _ (List.mem_append_right _ h)))) (by decide +kernel))
set_option maxRecDepth 20000 in
theorem gX4_bath_X4_demandTemperature : GoodIn wsX4_bath (va_wsS RX4 162 yX4_demandTemperature wsX4_demandTemperature) := goodIn_app (goodIn_of _ (by decide +kernel)) ggX4_bath_X4_demandTemperature
set_option maxRecDepth 20000 in
theorem ggX4_bath_X4_demandPlace : GoodIn wsX4_bath wsX4_demandPlace := goodIn_ca (goodIn_r _ [19, 12, 13, 4, 14, 15, 16] (by decide +kernel) (by decide +kernel)) (goodIn_sub (fun _ h => List.mem_cons_of_mem _ (List.mem_append_left _ (List.mem_append_left _ (List.mem_append_right _ h)))) (by decide +kernel))
set_option maxRecDepth 20000 in
theorem gX4_bath_X4_demandPlace : GoodIn wsX4_bath (va_wsS RX4 57 yX4_demandPlace wsX4_demandPlace) := goodIn_app (goodIn_of _ (by decide +kernel)) ggX4_bath_X4_demandPlace
set_option maxRecDepth 20000 in
theorem ggX4_bath_X4_demandFilled : GoodIn wsX4_bath wsX4_demandFilled := goodIn_ca (goodIn_r _ [22, 23, 24, 135, 136, 137, 138, 139, 140, 141, 142, 143, 144, 145, 146, 147, 148, 149] (by decide +kernel) (by decide +kernel)) (goodIn_sub (fun _ h => List.mem_cons_of_mem _ (List.mem_append_left _ (List.mem_append_right _ h))) (by decide +kernel))
set_option maxRecDepth 20000 in
theorem gX4_bath_X4_demandFilled : GoodIn wsX4_bath (va_wsS RX4 165 yX4_demandFilled wsX4_demandFilled) := goodIn_app (goodIn_of _ (by decide +kernel)) ggX4_bath_X4_demandFilled
set_option maxRecDepth 20000 in
theorem ggX4_bath_X4_demandDivided : GoodIn wsX4_bath wsX4_demandDivided := goodIn_ca (goodIn_r _ [27, 23, 24, 135, 136, 137, 138, 139, 140, 141, 142, 143, 144, 145, 146, 147, 148, 149, 150, 151, 152, 153, 154] (by decide +kernel) (by decide +kernel)) (goodIn_sub (fun _ h => List.mem_cons_of_mem _ (List.mem_append_left _ (List.mem_append_right _ h))) (by decide +kernel))
set_option maxRecDepth 20000 in
theorem gX4_bath_X4_demandDivided : GoodIn wsX4_bath (va_wsS RX4 204 yX4_demandDivided wsX4_demandDivided) := goodIn_app (goodIn_of _ (by decide +kernel)) ggX4_bath_X4_demandDivided
set_option maxRecDepth 20000 in
theorem ggX4_bath_X4_levelFound : GoodIn wsX4_bath wsX4_levelFound := goodIn_ca (goodIn_r _ [31, 32, 33, 34, 35, 36, 37, 38, 39, 40, 41, 42, 43, 44, 45, 46, 47, 48, 49, 50, 51, 52, 53, 54, 55, 56, 57, 58, 59, 60, 61, 62, 63, 64, 65, 66, 67, 68, 69, 70, 71, 72, 73, 74, 75, 76, 77, 78, 79, 80, 81, 82, 126, 127, 128, 129, 130, 131, 132, 133, 134, 135, 136, 137, 138, 139, 140, 141, 142, 143, 144, 145, 146, 147, 148, 149, 155, 156] (by decide +kernel) (by decide +kernel)) (goodIn_sub (fun _ h => List.mem_cons_of_mem _ (List.mem_append_right _ h)) (by decide +kernel))
set_option maxRecDepth 20000 in
theorem gX4_bath_X4_levelFound : GoodIn wsX4_bath (wsV RX4 169 RX4 yX4_levelFound wsX4_levelFound) := goodIn_app (goodIn_of _ (by decide +kernel)) ggX4_bath_X4_levelFound
set_option maxRecDepth 20000 in
theorem ggX4_bath_X0_readInBath : GoodIn wsX4_bath wsX0_readInBath := goodIn_r _ [86, 87, 88, 89, 76, 77, 78, 90, 47, 91, 92, 93, 94, 38, 95, 96, 97, 98, 80, 81, 99, 100, 101, 102, 103, 104, 105, 106, 107, 108, 109, 110, 111, 112, 113, 68, 69, 65, 70, 71, 72, 73, 74, 75, 79, 114, 115, 116, 117, 118, 119, 120, 121, 122, 123, 124, 125, 135, 136, 137, 138, 139, 140, 141, 142, 143, 144, 145, 146, 147, 148, 149, 150, 151, 152, 153, 154, 155, 156, 157, 158, 159] (by decide +kernel) (by decide +kernel)
set_option maxRecDepth 20000 in
theorem gX4_bath_X0_readInBath : GoodIn wsX4_bath (wsV RX4 210 RX0 yX0_readInBath wsX0_readInBath) := goodIn_app (goodIn_of _ (by decide +kernel)) ggX4_bath_X0_readInBath
theorem dX4_bath_0 : decode cX4_bath 0 = .ok (.aload_n 0, 1) := by decide +kernel
theorem dX4_bath_1 : decode cX4_bath 1 = .ok (.iload_n 1, 1) := by decide +kernel
theorem dX4_bath_2 : decode cX4_bath 2 = .ok (.invokevirtual 112, 3) := by decide +kernel
theorem dX4_bath_5 : decode cX4_bath 5 = .ok (.astore 4, 2) := by decide +kernel
theorem dX4_bath_7 : decode cX4_bath 7 = .ok (.iload_n 2, 1) := by decide +kernel
theorem dX4_bath_8 : decode cX4_bath 8 = .ok (.invokestatic 162, 3) := by decide +kernel
theorem dX4_bath_11 : decode cX4_bath 11 = .ok (.iload_n 3, 1) := by decide +kernel
theorem dX4_bath_12 : decode cX4_bath 12 = .ok (.invokestatic 57, 3) := by decide +kernel
theorem dX4_bath_15 : decode cX4_bath 15 = .ok (.aload 4, 2) := by decide +kernel
theorem dX4_bath_17 : decode cX4_bath 17 = .ok (.invokestatic 165, 3) := by decide +kernel
theorem dX4_bath_20 : decode cX4_bath 20 = .ok (.aload 4, 2) := by decide +kernel
theorem dX4_bath_22 : decode cX4_bath 22 = .ok (.invokestatic 204, 3) := by decide +kernel
theorem dX4_bath_25 : decode cX4_bath 25 = .ok (.aload 4, 2) := by decide +kernel
theorem dX4_bath_27 : decode cX4_bath 27 = .ok (.iload_n 2, 1) := by decide +kernel
theorem dX4_bath_28 : decode cX4_bath 28 = .ok (.aload_n 0, 1) := by decide +kernel
theorem dX4_bath_29 : decode cX4_bath 29 = .ok (.aload 4, 2) := by decide +kernel
theorem dX4_bath_31 : decode cX4_bath 31 = .ok (.iload_n 2, 1) := by decide +kernel
theorem dX4_bath_32 : decode cX4_bath 32 = .ok (.iload_n 3, 1) := by decide +kernel
theorem dX4_bath_33 : decode cX4_bath 33 = .ok (.invokevirtual 169, 3) := by decide +kernel
theorem dX4_bath_36 : decode cX4_bath 36 = .ok (.invokevirtual 210, 3) := by decide +kernel
theorem dX4_bath_39 : decode cX4_bath 39 = .ok (.ireturn, 1) := by decide +kernel
set_option maxRecDepth 20000 in
theorem ggX4_error_X4_instrumentNumbered : GoodIn wsX4_error wsX4_instrumentNumbered := goodIn_ca (goodIn_r _ [5, 6, 7, 8, 36, 37, 38, 39, 40, 41, 42, 43, 44] (by decide +kernel) (by decide +kernel)) (goodIn_sub (fun _ h => List.mem_cons_of_mem _ (List.mem_append_left _ (List.mem_append_right _ h))) (by decide +kernel))
set_option maxRecDepth 20000 in
theorem gX4_error_X4_instrumentNumbered : GoodIn wsX4_error (wsV RX4 112 RX4 yX4_instrumentNumbered wsX4_instrumentNumbered) := goodIn_app (goodIn_of _ (by decide +kernel)) ggX4_error_X4_instrumentNumbered
set_option maxRecDepth 20000 in
theorem ggX4_error_X4_demandReadings : GoodIn wsX4_error wsX4_demandReadings := goodIn_ca (goodIn_r _ [11, 12, 13, 45, 46, 47] (by decide +kernel) (by decide +kernel)) (goodIn_sub (fun _ h => List.mem_cons_of_mem _ (List.mem_append_right _ h)) (by decide +kernel))
set_option maxRecDepth 20000 in
theorem gX4_error_X4_demandReadings : GoodIn wsX4_error (va_wsS RX4 218 yX4_demandReadings wsX4_demandReadings) := goodIn_app (goodIn_of _ (by decide +kernel)) ggX4_error_X4_demandReadings
set_option maxRecDepth 20000 in
theorem ggX4_error_X1_newestError : GoodIn wsX4_error wsX1_newestError := goodIn_r _ [18, 19, 20, 45, 46, 47] (by decide +kernel) (by decide +kernel)
set_option maxRecDepth 20000 in
theorem gX4_error_X1_newestError : GoodIn wsX4_error (wsV RX4 222 RX1 yX1_newestError wsX1_newestError) := goodIn_app (goodIn_of _ (by decide +kernel)) ggX4_error_X1_newestError
theorem dX4_error_0 : decode cX4_error 0 = .ok (.aload_n 0, 1) := by decide +kernel
theorem dX4_error_1 : decode cX4_error 1 = .ok (.iload_n 1, 1) := by decide +kernel
theorem dX4_error_2 : decode cX4_error 2 = .ok (.invokevirtual 112, 3) := by decide +kernel
theorem dX4_error_5 : decode cX4_error 5 = .ok (.getfield 214, 3) := by decide +kernel
theorem dX4_error_8 : decode cX4_error 8 = .ok (.astore_n 2, 1) := by decide +kernel
theorem dX4_error_9 : decode cX4_error 9 = .ok (.aload_n 2, 1) := by decide +kernel
theorem dX4_error_10 : decode cX4_error 10 = .ok (.invokestatic 218, 3) := by decide +kernel
theorem dX4_error_13 : decode cX4_error 13 = .ok (.aload_n 2, 1) := by decide +kernel
theorem dX4_error_14 : decode cX4_error 14 = .ok (.invokevirtual 222, 3) := by decide +kernel
theorem dX4_error_17 : decode cX4_error 17 = .ok (.ireturn, 1) := by decide +kernel
set_option maxRecDepth 20000 in
theorem ggX4_tests_X4_instrumentNumbered : GoodIn wsX4_tests wsX4_instrumentNumbered := goodIn_ca (goodIn_r _ [5, 6, 7, 8, 27, 28, 29, 30, 31, 32, 33, 34, 35] (by decide +kernel) (by decide +kernel)) (goodIn_sub (fun _ h => List.mem_cons_of_mem _ (List.mem_append_right _ h)) (by decide +kernel))
set_option maxRecDepth 20000 in
theorem gX4_tests_X4_instrumentNumbered : GoodIn wsX4_tests (wsV RX4 112 RX4 yX4_instrumentNumbered wsX4_instrumentNumbered) := goodIn_app (goodIn_of _ (by decide +kernel)) ggX4_tests_X4_instrumentNumbered
theorem dX4_tests_0 : decode cX4_tests 0 = .ok (.aload_n 0, 1) := by decide +kernel
theorem dX4_tests_1 : decode cX4_tests 1 = .ok (.iload_n 1, 1) := by decide +kernel
theorem dX4_tests_2 : decode cX4_tests 2 = .ok (.invokevirtual 112, 3) := by decide +kernel
theorem dX4_tests_5 : decode cX4_tests 5 = .ok (.getfield 214, 3) := by decide +kernel
theorem dX4_tests_8 : decode cX4_tests 8 = .ok (.getfield 227, 3) := by decide +kernel
theorem dX4_tests_11 : decode cX4_tests 11 = .ok (.ireturn, 1) := by decide +kernel
set_option maxRecDepth 20000 in
theorem ggX4_begin_X4_instrumentNumbered : GoodIn wsX4_begin wsX4_instrumentNumbered := goodIn_ca (goodIn_r _ [5, 6, 7, 8, 27, 28, 29, 30, 31, 32, 33, 34, 35] (by decide +kernel) (by decide +kernel)) (goodIn_sub (fun _ h => List.mem_cons_of_mem _ (List.mem_append_right _ h)) (by decide +kernel))
set_option maxRecDepth 20000 in
theorem gX4_begin_X4_instrumentNumbered : GoodIn wsX4_begin (wsV RX4 112 RX4 yX4_instrumentNumbered wsX4_instrumentNumbered) := goodIn_app (goodIn_of _ (by decide +kernel)) ggX4_begin_X4_instrumentNumbered
theorem dX4_begin_0 : decode cX4_begin 0 = .ok (.aload_n 0, 1) := by decide +kernel
theorem dX4_begin_1 : decode cX4_begin 1 = .ok (.iload_n 1, 1) := by decide +kernel
theorem dX4_begin_2 : decode cX4_begin 2 = .ok (.invokevirtual 112, 3) := by decide +kernel
theorem dX4_begin_5 : decode cX4_begin 5 = .ok (.getfield 214, 3) := by decide +kernel
theorem dX4_begin_8 : decode cX4_begin 8 = .ok (.astore_n 2, 1) := by decide +kernel
theorem dX4_begin_9 : decode cX4_begin 9 = .ok (.aload_n 2, 1) := by decide +kernel
theorem dX4_begin_10 : decode cX4_begin 10 = .ok (.getfield 227, 3) := by decide +kernel
theorem dX4_begin_13 : decode cX4_begin 13 = .ok (.istore_n 3, 1) := by decide +kernel
theorem dX4_begin_14 : decode cX4_begin 14 = .ok (.aload_n 2, 1) := by decide +kernel
theorem dX4_begin_15 : decode cX4_begin 15 = .ok (.iconst 0, 1) := by decide +kernel
theorem dX4_begin_16 : decode cX4_begin 16 = .ok (.putfield 227, 3) := by decide +kernel
theorem dX4_begin_19 : decode cX4_begin 19 = .ok (.iload_n 3, 1) := by decide +kernel
theorem dX4_begin_20 : decode cX4_begin 20 = .ok (.ireturn, 1) := by decide +kernel
set_option maxRecDepth 20000 in
theorem ggX4_worst_X4_instrumentNumbered : GoodIn wsX4_worst wsX4_instrumentNumbered := goodIn_ca (goodIn_r _ [5, 6, 7, 8, 43, 44, 45, 46, 47, 48, 49, 50, 51] (by decide +kernel) (by decide +kernel)) (goodIn_sub (fun _ h => List.mem_cons_of_mem _ (List.mem_append_left _ (List.mem_append_right _ h))) (by decide +kernel))
set_option maxRecDepth 20000 in
theorem gX4_worst_X4_instrumentNumbered : GoodIn wsX4_worst (wsV RX4 112 RX4 yX4_instrumentNumbered wsX4_instrumentNumbered) := goodIn_app (goodIn_of _ (by decide +kernel)) ggX4_worst_X4_instrumentNumbered
set_option maxRecDepth 20000 in
theorem ggX4_worst_X4_demandReadings : GoodIn wsX4_worst wsX4_demandReadings := goodIn_ca (goodIn_r _ [11, 12, 13, 52, 53, 54] (by decide +kernel) (by decide +kernel)) (goodIn_sub (fun _ h => List.mem_cons_of_mem _ (List.mem_append_right _ h)) (by decide +kernel))
set_option maxRecDepth 20000 in
theorem gX4_worst_X4_demandReadings : GoodIn wsX4_worst (va_wsS RX4 218 yX4_demandReadings wsX4_demandReadings) := goodIn_app (goodIn_of _ (by decide +kernel)) ggX4_worst_X4_demandReadings
set_option maxRecDepth 20000 in
theorem ggX4_worst_X1_greatestError : GoodIn wsX4_worst wsX1_greatestError := goodIn_r _ [18, 19, 20, 21, 22, 23, 24, 25, 26, 27, 52, 53, 54] (by decide +kernel) (by decide +kernel)
set_option maxRecDepth 20000 in
theorem gX4_worst_X1_greatestError : GoodIn wsX4_worst (wsV RX4 230 RX1 yX1_greatestError wsX1_greatestError) := goodIn_app (goodIn_of _ (by decide +kernel)) ggX4_worst_X1_greatestError
theorem dX4_worst_0 : decode cX4_worst 0 = .ok (.aload_n 0, 1) := by decide +kernel
theorem dX4_worst_1 : decode cX4_worst 1 = .ok (.iload_n 1, 1) := by decide +kernel
theorem dX4_worst_2 : decode cX4_worst 2 = .ok (.invokevirtual 112, 3) := by decide +kernel
theorem dX4_worst_5 : decode cX4_worst 5 = .ok (.getfield 214, 3) := by decide +kernel
theorem dX4_worst_8 : decode cX4_worst 8 = .ok (.astore_n 2, 1) := by decide +kernel
theorem dX4_worst_9 : decode cX4_worst 9 = .ok (.aload_n 2, 1) := by decide +kernel
theorem dX4_worst_10 : decode cX4_worst 10 = .ok (.invokestatic 218, 3) := by decide +kernel
theorem dX4_worst_13 : decode cX4_worst 13 = .ok (.aload_n 2, 1) := by decide +kernel
theorem dX4_worst_14 : decode cX4_worst 14 = .ok (.invokevirtual 230, 3) := by decide +kernel
theorem dX4_worst_17 : decode cX4_worst 17 = .ok (.ireturn, 1) := by decide +kernel
set_option maxRecDepth 20000 in
theorem ggX4_grade_X4_instrumentNumbered : GoodIn wsX4_grade wsX4_instrumentNumbered := goodIn_ca (goodIn_r _ [5, 6, 7, 8, 46, 47, 48, 49, 50, 51, 52, 53, 54] (by decide +kernel) (by decide +kernel)) (goodIn_sub (fun _ h => List.mem_cons_of_mem _ (List.mem_append_left _ (List.mem_append_right _ h))) (by decide +kernel))
set_option maxRecDepth 20000 in
theorem gX4_grade_X4_instrumentNumbered : GoodIn wsX4_grade (wsV RX4 112 RX4 yX4_instrumentNumbered wsX4_instrumentNumbered) := goodIn_app (goodIn_of _ (by decide +kernel)) ggX4_grade_X4_instrumentNumbered
set_option maxRecDepth 20000 in
theorem ggX4_grade_X4_demandEnoughForClass : GoodIn wsX4_grade wsX4_demandEnoughForClass := goodIn_ca (goodIn_r _ [11, 12, 13, 55, 56, 57] (by decide +kernel) (by decide +kernel)) (goodIn_sub (fun _ h => List.mem_cons_of_mem _ (List.mem_append_right _ h)) (by decide +kernel))
set_option maxRecDepth 20000 in
theorem gX4_grade_X4_demandEnoughForClass : GoodIn wsX4_grade (va_wsS RX4 233 yX4_demandEnoughForClass wsX4_demandEnoughForClass) := goodIn_app (goodIn_of _ (by decide +kernel)) ggX4_grade_X4_demandEnoughForClass
set_option maxRecDepth 20000 in
theorem ggX4_grade_X1_greatestError : GoodIn wsX4_grade wsX1_greatestError := goodIn_r _ [18, 19, 20, 21, 22, 23, 24, 25, 26, 27, 55, 56, 57] (by decide +kernel) (by decide +kernel)
set_option maxRecDepth 20000 in
theorem gX4_grade_X1_greatestError : GoodIn wsX4_grade (wsV RX4 230 RX1 yX1_greatestError wsX1_greatestError) := goodIn_app (goodIn_of _ (by decide +kernel)) ggX4_grade_X1_greatestError
set_option maxRecDepth 20000 in
theorem ggX4_grade_X4_classByError : GoodIn wsX4_grade wsX4_classByError := goodIn_r _ [30] (by decide +kernel) (by decide +kernel)
set_option maxRecDepth 20000 in
theorem gX4_grade_X4_classByError : GoodIn wsX4_grade (va_wsS RX4 236 yX4_classByError wsX4_classByError) := goodIn_app (goodIn_of _ (by decide +kernel)) ggX4_grade_X4_classByError
theorem dX4_grade_0 : decode cX4_grade 0 = .ok (.aload_n 0, 1) := by decide +kernel
theorem dX4_grade_1 : decode cX4_grade 1 = .ok (.iload_n 1, 1) := by decide +kernel
theorem dX4_grade_2 : decode cX4_grade 2 = .ok (.invokevirtual 112, 3) := by decide +kernel
theorem dX4_grade_5 : decode cX4_grade 5 = .ok (.getfield 214, 3) := by decide +kernel
theorem dX4_grade_8 : decode cX4_grade 8 = .ok (.astore_n 2, 1) := by decide +kernel
theorem dX4_grade_9 : decode cX4_grade 9 = .ok (.aload_n 2, 1) := by decide +kernel
theorem dX4_grade_10 : decode cX4_grade 10 = .ok (.invokestatic 233, 3) := by decide +kernel
theorem dX4_grade_13 : decode cX4_grade 13 = .ok (.aload_n 2, 1) := by decide +kernel
theorem dX4_grade_14 : decode cX4_grade 14 = .ok (.invokevirtual 230, 3) := by decide +kernel
theorem dX4_grade_17 : decode cX4_grade 17 = .ok (.invokestatic 236, 3) := by decide +kernel
theorem dX4_grade_20 : decode cX4_grade 20 = .ok (.ireturn, 1) := by decide +kernel
set_option maxRecDepth 20000 in
theorem ggX4_certify_X4_instrumentNumbered : GoodIn wsX4_certify wsX4_instrumentNumbered := goodIn_ca (goodIn_r _ [8, 9, 10, 11, 47, 48, 49, 50, 51, 52, 53, 54, 55] (by decide +kernel) (by decide +kernel)) (goodIn_sub (fun _ h => List.mem_cons_of_mem _ (List.mem_append_right _ h)) (by decide +kernel))
set_option maxRecDepth 20000 in
theorem gX4_certify_X4_instrumentNumbered : GoodIn wsX4_certify (wsV RX4 112 RX4 yX4_instrumentNumbered wsX4_instrumentNumbered) := goodIn_app (goodIn_of _ (by decide +kernel)) ggX4_certify_X4_instrumentNumbered
set_option maxRecDepth 20000 in
theorem ggX4_certify_X4_demandEnoughForClass : GoodIn wsX4_certify wsX4_demandEnoughForClass := goodIn_ca (goodIn_r _ [14, 1, 2, 56, 57, 58] (by decide +kernel) (by decide +kernel)) (goodIn_sub (fun _ h => List.mem_cons_of_mem _ (List.mem_append_left _ (List.mem_append_right _ h))) (by decide +kernel))
set_option maxRecDepth 20000 in
theorem gX4_certify_X4_demandEnoughForClass : GoodIn wsX4_certify (va_wsS RX4 233 yX4_demandEnoughForClass wsX4_demandEnoughForClass) := goodIn_app (goodIn_of _ (by decide +kernel)) ggX4_certify_X4_demandEnoughForClass
set_option maxRecDepth 20000 in
theorem ggX4_certify_X1_greatestError : GoodIn wsX4_certify wsX1_greatestError := goodIn_r _ [19, 20, 21, 22, 23, 24, 25, 26, 27, 28, 56, 57, 58] (by decide +kernel) (by decide +kernel)
set_option maxRecDepth 20000 in
theorem gX4_certify_X1_greatestError : GoodIn wsX4_certify (wsV RX4 230 RX1 yX1_greatestError wsX1_greatestError) := goodIn_app (goodIn_of _ (by decide +kernel)) ggX4_certify_X1_greatestError
set_option maxRecDepth 20000 in
theorem ggX4_certify_X4_classByError : GoodIn wsX4_certify wsX4_classByError := goodIn_r _ [31] (by decide +kernel) (by decide +kernel)
set_option maxRecDepth 20000 in
theorem gX4_certify_X4_classByError : GoodIn wsX4_certify (va_wsS RX4 236 yX4_classByError wsX4_classByError) := goodIn_app (goodIn_of _ (by decide +kernel)) ggX4_certify_X4_classByError
theorem dX4_certify_0 : decode cX4_certify 0 = .ok (.aload_n 0, 1) := by decide +kernel
theorem dX4_certify_1 : decode cX4_certify 1 = .ok (.iload_n 1, 1) := by decide +kernel
theorem dX4_certify_2 : decode cX4_certify 2 = .ok (.invokevirtual 112, 3) := by decide +kernel
theorem dX4_certify_5 : decode cX4_certify 5 = .ok (.astore_n 2, 1) := by decide +kernel
theorem dX4_certify_6 : decode cX4_certify 6 = .ok (.aload_n 2, 1) := by decide +kernel
theorem dX4_certify_7 : decode cX4_certify 7 = .ok (.getfield 214, 3) := by decide +kernel
theorem dX4_certify_10 : decode cX4_certify 10 = .ok (.invokestatic 233, 3) := by decide +kernel
theorem dX4_certify_13 : decode cX4_certify 13 = .ok (.aload_n 2, 1) := by decide +kernel
theorem dX4_certify_14 : decode cX4_certify 14 = .ok (.getfield 214, 3) := by decide +kernel
theorem dX4_certify_17 : decode cX4_certify 17 = .ok (.invokevirtual 230, 3) := by decide +kernel
theorem dX4_certify_20 : decode cX4_certify 20 = .ok (.invokestatic 236, 3) := by decide +kernel
theorem dX4_certify_23 : decode cX4_certify 23 = .ok (.bipush 88, 2) := by decide +kernel
theorem dX4_certify_25 : decode cX4_certify 25 = .ok (.if_icmp .ne 13, 3) := by decide +kernel
theorem dX4_certify_28 : decode cX4_certify 28 = .ok (.new 122, 3) := by decide +kernel
theorem dX4_certify_31 : decode cX4_certify 31 = .ok (.dup, 1) := by decide +kernel
theorem dX4_certify_32 : decode cX4_certify 32 = .ok (.ldc 240, 2) := by decide +kernel
theorem dX4_certify_34 : decode cX4_certify 34 = .ok (.invokespecial 126, 3) := by decide +kernel
theorem dX4_certify_37 : decode cX4_certify 37 = .ok (.athrow, 1) := by decide +kernel
theorem dX4_certify_38 : decode cX4_certify 38 = .ok (.aload_n 2, 1) := by decide +kernel
theorem dX4_certify_39 : decode cX4_certify 39 = .ok (.aload_n 0, 1) := by decide +kernel
theorem dX4_certify_40 : decode cX4_certify 40 = .ok (.getfield 154, 3) := by decide +kernel
theorem dX4_certify_43 : decode cX4_certify 43 = .ok (.aload_n 2, 1) := by decide +kernel
theorem dX4_certify_44 : decode cX4_certify 44 = .ok (.getfield 242, 3) := by decide +kernel
theorem dX4_certify_47 : decode cX4_certify 47 = .ok (.bipush 104, 2) := by decide +kernel
theorem dX4_certify_49 : decode cX4_certify 49 = .ok (.if_icmp .ne 9, 3) := by decide +kernel
theorem dX4_certify_52 : decode cX4_certify 52 = .ok (.sipush 360, 3) := by decide +kernel
theorem dX4_certify_55 : decode cX4_certify 55 = .ok (.goto 5, 3) := by decide +kernel
theorem dX4_certify_58 : decode cX4_certify 58 = .ok (.bipush 120, 2) := by decide +kernel
theorem dX4_certify_60 : decode cX4_certify 60 = .ok (.iadd, 1) := by decide +kernel
theorem dX4_certify_61 : decode cX4_certify 61 = .ok (.putfield 245, 3) := by decide +kernel
theorem dX4_certify_64 : decode cX4_certify 64 = .ok (.aload_n 2, 1) := by decide +kernel
theorem dX4_certify_65 : decode cX4_certify 65 = .ok (.getfield 245, 3) := by decide +kernel
theorem dX4_certify_68 : decode cX4_certify 68 = .ok (.ireturn, 1) := by decide +kernel
set_option maxRecDepth 20000 in
theorem ggX4_isCertified_X4_instrumentNumbered : GoodIn wsX4_isCertified wsX4_instrumentNumbered := goodIn_ca (goodIn_r _ [6, 7, 8, 9, 17, 18, 19, 20, 21, 22, 23, 24, 25] (by decide +kernel) (by decide +kernel)) (goodIn_sub (fun _ h => List.mem_cons_of_mem _ (List.mem_append_right _ h)) (by decide +kernel))
set_option maxRecDepth 20000 in
theorem gX4_isCertified_X4_instrumentNumbered : GoodIn wsX4_isCertified (wsV RX4 112 RX4 yX4_instrumentNumbered wsX4_instrumentNumbered) := goodIn_app (goodIn_of _ (by decide +kernel)) ggX4_isCertified_X4_instrumentNumbered
set_option maxRecDepth 20000 in
theorem ggX4_isCertified_X0_holdsCertificateOn : GoodIn wsX4_isCertified wsX0_holdsCertificateOn := goodIn_r _ [14, 15, 16, 26, 27, 28, 29, 30, 31, 32, 33, 34, 35, 36, 37, 38, 39, 40] (by decide +kernel) (by decide +kernel)
set_option maxRecDepth 20000 in
theorem gX4_isCertified_X0_holdsCertificateOn : GoodIn wsX4_isCertified (wsV RX4 248 RX0 yX0_holdsCertificateOn wsX0_holdsCertificateOn) := goodIn_app (goodIn_of _ (by decide +kernel)) ggX4_isCertified_X0_holdsCertificateOn
theorem dX4_isCertified_0 : decode cX4_isCertified 0 = .ok (.aload_n 0, 1) := by decide +kernel
theorem dX4_isCertified_1 : decode cX4_isCertified 1 = .ok (.iload_n 1, 1) := by decide +kernel
theorem dX4_isCertified_2 : decode cX4_isCertified 2 = .ok (.invokevirtual 112, 3) := by decide +kernel
theorem dX4_isCertified_5 : decode cX4_isCertified 5 = .ok (.aload_n 0, 1) := by decide +kernel
theorem dX4_isCertified_6 : decode cX4_isCertified 6 = .ok (.getfield 154, 3) := by decide +kernel
theorem dX4_isCertified_9 : decode cX4_isCertified 9 = .ok (.invokevirtual 248, 3) := by decide +kernel
theorem dX4_isCertified_12 : decode cX4_isCertified 12 = .ok (.ireturn, 1) := by decide +kernel
set_option maxRecDepth 20000 in
theorem ggX4_breakThread_X4_instrumentNumbered : GoodIn wsX4_breakThread wsX4_instrumentNumbered := goodIn_ca (goodIn_r _ [5, 6, 7, 8, 34, 35, 36, 37, 38, 39, 40, 41, 42] (by decide +kernel) (by decide +kernel)) (goodIn_sub (fun _ h => List.mem_cons_of_mem _ (List.mem_append_left _ (List.mem_append_left _ (List.mem_append_right _ h)))) (by decide +kernel))
set_option maxRecDepth 20000 in
theorem gX4_breakThread_X4_instrumentNumbered : GoodIn wsX4_breakThread (wsV RX4 112 RX4 yX4_instrumentNumbered wsX4_instrumentNumbered) := goodIn_app (goodIn_of _ (by decide +kernel)) ggX4_breakThread_X4_instrumentNumbered
set_option maxRecDepth 20000 in
theorem ggX4_breakThread_X4_demandRange : GoodIn wsX4_breakThread wsX4_demandRange := goodIn_ca (goodIn_r _ [11, 12, 13] (by decide +kernel) (by decide +kernel)) (goodIn_sub (fun _ h => List.mem_cons_of_mem _ (List.mem_append_left _ (List.mem_append_right _ h))) (by decide +kernel))
set_option maxRecDepth 20000 in
theorem gX4_breakThread_X4_demandRange : GoodIn wsX4_breakThread (va_wsS RX4 25 yX4_demandRange wsX4_demandRange) := goodIn_app (goodIn_of _ (by decide +kernel)) ggX4_breakThread_X4_demandRange
set_option maxRecDepth 20000 in
theorem ggX4_breakThread_X4_demandFilled : GoodIn wsX4_breakThread wsX4_demandFilled := goodIn_ca (goodIn_r _ [16, 17, 18, 19, 20, 21, 22, 23, 24, 25, 26, 27, 28, 29, 30, 31, 32, 33] (by decide +kernel) (by decide +kernel)) (goodIn_sub (fun _ h => List.mem_cons_of_mem _ (List.mem_append_right _ h)) (by decide +kernel))
set_option maxRecDepth 20000 in
theorem gX4_breakThread_X4_demandFilled : GoodIn wsX4_breakThread (va_wsS RX4 165 yX4_demandFilled wsX4_demandFilled) := goodIn_app (goodIn_of _ (by decide +kernel)) ggX4_breakThread_X4_demandFilled
theorem dX4_breakThread_0 : decode cX4_breakThread 0 = .ok (.aload_n 0, 1) := by decide +kernel
theorem dX4_breakThread_1 : decode cX4_breakThread 1 = .ok (.iload_n 1, 1) := by decide +kernel
theorem dX4_breakThread_2 : decode cX4_breakThread 2 = .ok (.invokevirtual 112, 3) := by decide +kernel
theorem dX4_breakThread_5 : decode cX4_breakThread 5 = .ok (.astore_n 3, 1) := by decide +kernel
theorem dX4_breakThread_6 : decode cX4_breakThread 6 = .ok (.iload_n 2, 1) := by decide +kernel
theorem dX4_breakThread_7 : decode cX4_breakThread 7 = .ok (.iconst 1, 1) := by decide +kernel
theorem dX4_breakThread_8 : decode cX4_breakThread 8 = .ok (.bipush 20, 2) := by decide +kernel
theorem dX4_breakThread_10 : decode cX4_breakThread 10 = .ok (.invokestatic 25, 3) := by decide +kernel
theorem dX4_breakThread_13 : decode cX4_breakThread 13 = .ok (.aload_n 3, 1) := by decide +kernel
theorem dX4_breakThread_14 : decode cX4_breakThread 14 = .ok (.invokestatic 165, 3) := by decide +kernel
theorem dX4_breakThread_17 : decode cX4_breakThread 17 = .ok (.aload_n 3, 1) := by decide +kernel
theorem dX4_breakThread_18 : decode cX4_breakThread 18 = .ok (.getfield 252, 3) := by decide +kernel
theorem dX4_breakThread_21 : decode cX4_breakThread 21 = .ok (.istore 4, 2) := by decide +kernel
theorem dX4_breakThread_23 : decode cX4_breakThread 23 = .ok (.aload_n 3, 1) := by decide +kernel
theorem dX4_breakThread_24 : decode cX4_breakThread 24 = .ok (.iload_n 2, 1) := by decide +kernel
theorem dX4_breakThread_25 : decode cX4_breakThread 25 = .ok (.putfield 252, 3) := by decide +kernel
theorem dX4_breakThread_28 : decode cX4_breakThread 28 = .ok (.iload 4, 2) := by decide +kernel
theorem dX4_breakThread_30 : decode cX4_breakThread 30 = .ok (.ireturn, 1) := by decide +kernel
set_option maxRecDepth 20000 in
theorem ggX4_isBroken_X4_instrumentNumbered : GoodIn wsX4_isBroken wsX4_instrumentNumbered := goodIn_ca (goodIn_r _ [5, 6, 7, 8, 24, 25, 26, 27, 28, 29, 30, 31, 32] (by decide +kernel) (by decide +kernel)) (goodIn_sub (fun _ h => List.mem_cons_of_mem _ (List.mem_append_right _ h)) (by decide +kernel))
set_option maxRecDepth 20000 in
theorem gX4_isBroken_X4_instrumentNumbered : GoodIn wsX4_isBroken (wsV RX4 112 RX4 yX4_instrumentNumbered wsX4_instrumentNumbered) := goodIn_app (goodIn_of _ (by decide +kernel)) ggX4_isBroken_X4_instrumentNumbered
theorem dX4_isBroken_0 : decode cX4_isBroken 0 = .ok (.aload_n 0, 1) := by decide +kernel
theorem dX4_isBroken_1 : decode cX4_isBroken 1 = .ok (.iload_n 1, 1) := by decide +kernel
theorem dX4_isBroken_2 : decode cX4_isBroken 2 = .ok (.invokevirtual 112, 3) := by decide +kernel
theorem dX4_isBroken_5 : decode cX4_isBroken 5 = .ok (.getfield 252, 3) := by decide +kernel
theorem dX4_isBroken_8 : decode cX4_isBroken 8 = .ok (.ifCond .le 7, 3) := by decide +kernel
theorem dX4_isBroken_11 : decode cX4_isBroken 11 = .ok (.iconst 1, 1) := by decide +kernel
theorem dX4_isBroken_12 : decode cX4_isBroken 12 = .ok (.goto 4, 3) := by decide +kernel
theorem dX4_isBroken_15 : decode cX4_isBroken 15 = .ok (.iconst 0, 1) := by decide +kernel
theorem dX4_isBroken_16 : decode cX4_isBroken 16 = .ok (.ireturn, 1) := by decide +kernel
set_option maxRecDepth 20000 in
theorem ggX4_keep_X4_instrumentNumbered : GoodIn wsX4_keep wsX4_instrumentNumbered := goodIn_ca (goodIn_r _ [5, 6, 7, 8, 24, 25, 26, 27, 28, 29, 30, 31, 32] (by decide +kernel) (by decide +kernel)) (goodIn_sub (fun _ h => List.mem_cons_of_mem _ (List.mem_append_right _ h)) (by decide +kernel))
set_option maxRecDepth 20000 in
theorem gX4_keep_X4_instrumentNumbered : GoodIn wsX4_keep (wsV RX4 112 RX4 yX4_instrumentNumbered wsX4_instrumentNumbered) := goodIn_app (goodIn_of _ (by decide +kernel)) ggX4_keep_X4_instrumentNumbered
theorem dX4_keep_0 : decode cX4_keep 0 = .ok (.aload_n 0, 1) := by decide +kernel
theorem dX4_keep_1 : decode cX4_keep 1 = .ok (.iload_n 1, 1) := by decide +kernel
theorem dX4_keep_2 : decode cX4_keep 2 = .ok (.invokevirtual 112, 3) := by decide +kernel
theorem dX4_keep_5 : decode cX4_keep 5 = .ok (.astore_n 3, 1) := by decide +kernel
theorem dX4_keep_6 : decode cX4_keep 6 = .ok (.aload_n 3, 1) := by decide +kernel
theorem dX4_keep_7 : decode cX4_keep 7 = .ok (.getfield 255, 3) := by decide +kernel
theorem dX4_keep_10 : decode cX4_keep 10 = .ok (.istore 4, 2) := by decide +kernel
theorem dX4_keep_12 : decode cX4_keep 12 = .ok (.aload_n 3, 1) := by decide +kernel
theorem dX4_keep_13 : decode cX4_keep 13 = .ok (.iload_n 2, 1) := by decide +kernel
theorem dX4_keep_14 : decode cX4_keep 14 = .ok (.putfield 255, 3) := by decide +kernel
theorem dX4_keep_17 : decode cX4_keep 17 = .ok (.aload_n 3, 1) := by decide +kernel
theorem dX4_keep_18 : decode cX4_keep 18 = .ok (.iconst (-1), 1) := by decide +kernel
theorem dX4_keep_19 : decode cX4_keep 19 = .ok (.putfield 258, 3) := by decide +kernel
theorem dX4_keep_22 : decode cX4_keep 22 = .ok (.iload 4, 2) := by decide +kernel
theorem dX4_keep_24 : decode cX4_keep 24 = .ok (.ireturn, 1) := by decide +kernel
set_option maxRecDepth 20000 in
theorem ggX4_shake_X4_instrumentNumbered : GoodIn wsX4_shake wsX4_instrumentNumbered := goodIn_ca (goodIn_r _ [9, 10, 11, 12, 28, 29, 30, 31, 32, 33, 34, 35, 36] (by decide +kernel) (by decide +kernel)) (goodIn_sub (fun _ h => List.mem_cons_of_mem _ (List.mem_append_right _ h)) (by decide +kernel))
set_option maxRecDepth 20000 in
theorem gX4_shake_X4_instrumentNumbered : GoodIn wsX4_shake (wsV RX4 112 RX4 yX4_instrumentNumbered wsX4_instrumentNumbered) := goodIn_app (goodIn_of _ (by decide +kernel)) ggX4_shake_X4_instrumentNumbered
theorem dX4_shake_0 : decode cX4_shake 0 = .ok (.aload_n 0, 1) := by decide +kernel
theorem dX4_shake_1 : decode cX4_shake 1 = .ok (.iload_n 1, 1) := by decide +kernel
theorem dX4_shake_2 : decode cX4_shake 2 = .ok (.invokevirtual 112, 3) := by decide +kernel
theorem dX4_shake_5 : decode cX4_shake 5 = .ok (.astore_n 2, 1) := by decide +kernel
theorem dX4_shake_6 : decode cX4_shake 6 = .ok (.aload_n 2, 1) := by decide +kernel
theorem dX4_shake_7 : decode cX4_shake 7 = .ok (.getfield 255, 3) := by decide +kernel
theorem dX4_shake_10 : decode cX4_shake 10 = .ok (.ifCond .ne 14, 3) := by decide +kernel
theorem dX4_shake_13 : decode cX4_shake 13 = .ok (.new 122, 3) := by decide +kernel
theorem dX4_shake_16 : decode cX4_shake 16 = .ok (.dup, 1) := by decide +kernel
theorem dX4_shake_17 : decode cX4_shake 17 = .ok (.ldc_w 261, 3) := by decide +kernel
theorem dX4_shake_20 : decode cX4_shake 20 = .ok (.invokespecial 126, 3) := by decide +kernel
theorem dX4_shake_23 : decode cX4_shake 23 = .ok (.athrow, 1) := by decide +kernel
theorem dX4_shake_24 : decode cX4_shake 24 = .ok (.aload_n 2, 1) := by decide +kernel
theorem dX4_shake_25 : decode cX4_shake 25 = .ok (.getfield 258, 3) := by decide +kernel
theorem dX4_shake_28 : decode cX4_shake 28 = .ok (.iconst (-1), 1) := by decide +kernel
theorem dX4_shake_29 : decode cX4_shake 29 = .ok (.if_icmp .ne 14, 3) := by decide +kernel
theorem dX4_shake_32 : decode cX4_shake 32 = .ok (.new 68, 3) := by decide +kernel
theorem dX4_shake_35 : decode cX4_shake 35 = .ok (.dup, 1) := by decide +kernel
theorem dX4_shake_36 : decode cX4_shake 36 = .ok (.ldc_w 263, 3) := by decide +kernel
theorem dX4_shake_39 : decode cX4_shake 39 = .ok (.invokespecial 72, 3) := by decide +kernel
theorem dX4_shake_42 : decode cX4_shake 42 = .ok (.athrow, 1) := by decide +kernel
theorem dX4_shake_43 : decode cX4_shake 43 = .ok (.aload_n 2, 1) := by decide +kernel
theorem dX4_shake_44 : decode cX4_shake 44 = .ok (.getfield 258, 3) := by decide +kernel
theorem dX4_shake_47 : decode cX4_shake 47 = .ok (.istore_n 3, 1) := by decide +kernel
theorem dX4_shake_48 : decode cX4_shake 48 = .ok (.aload_n 2, 1) := by decide +kernel
theorem dX4_shake_49 : decode cX4_shake 49 = .ok (.iconst (-1), 1) := by decide +kernel
theorem dX4_shake_50 : decode cX4_shake 50 = .ok (.putfield 258, 3) := by decide +kernel
theorem dX4_shake_53 : decode cX4_shake 53 = .ok (.iload_n 3, 1) := by decide +kernel
theorem dX4_shake_54 : decode cX4_shake 54 = .ok (.ireturn, 1) := by decide +kernel
set_option maxRecDepth 20000 in
theorem ggX4_barometer_X4_demandRange : GoodIn wsX4_barometer wsX4_demandRange := goodIn_ca (goodIn_r _ [5, 6, 7] (by decide +kernel) (by decide +kernel)) (goodIn_sub (fun _ h => List.mem_cons_of_mem _ (List.mem_append_right _ h)) (by decide +kernel))
set_option maxRecDepth 20000 in
theorem gX4_barometer_X4_demandRange : GoodIn wsX4_barometer (va_wsS RX4 25 yX4_demandRange wsX4_demandRange) := goodIn_app (goodIn_of _ (by decide +kernel)) ggX4_barometer_X4_demandRange
theorem dX4_barometer_0 : decode cX4_barometer 0 = .ok (.iload_n 1, 1) := by decide +kernel
theorem dX4_barometer_1 : decode cX4_barometer 1 = .ok (.sipush 6000, 3) := by decide +kernel
theorem dX4_barometer_4 : decode cX4_barometer 4 = .ok (.sipush 8000, 3) := by decide +kernel
theorem dX4_barometer_7 : decode cX4_barometer 7 = .ok (.invokestatic 25, 3) := by decide +kernel
theorem dX4_barometer_10 : decode cX4_barometer 10 = .ok (.iload_n 2, 1) := by decide +kernel
theorem dX4_barometer_11 : decode cX4_barometer 11 = .ok (.bipush (-20), 2) := by decide +kernel
theorem dX4_barometer_13 : decode cX4_barometer 13 = .ok (.bipush 40, 2) := by decide +kernel
theorem dX4_barometer_15 : decode cX4_barometer 15 = .ok (.invokestatic 25, 3) := by decide +kernel
theorem dX4_barometer_18 : decode cX4_barometer 18 = .ok (.iload_n 3, 1) := by decide +kernel
theorem dX4_barometer_19 : decode cX4_barometer 19 = .ok (.sipush 9780, 3) := by decide +kernel
theorem dX4_barometer_22 : decode cX4_barometer 22 = .ok (.sipush 9832, 3) := by decide +kernel
theorem dX4_barometer_25 : decode cX4_barometer 25 = .ok (.invokestatic 25, 3) := by decide +kernel
theorem dX4_barometer_28 : decode cX4_barometer 28 = .ok (.iload 4, 2) := by decide +kernel
theorem dX4_barometer_30 : decode cX4_barometer 30 = .ok (.iconst 1, 1) := by decide +kernel
theorem dX4_barometer_31 : decode cX4_barometer 31 = .ok (.bipush 60, 2) := by decide +kernel
theorem dX4_barometer_33 : decode cX4_barometer 33 = .ok (.invokestatic 25, 3) := by decide +kernel
theorem dX4_barometer_36 : decode cX4_barometer 36 = .ok (.iload_n 1, 1) := by decide +kernel
theorem dX4_barometer_37 : decode cX4_barometer 37 = .ok (.iload_n 1, 1) := by decide +kernel
theorem dX4_barometer_38 : decode cX4_barometer 38 = .ok (.bipush 18, 2) := by decide +kernel
theorem dX4_barometer_40 : decode cX4_barometer 40 = .ok (.imul, 1) := by decide +kernel
theorem dX4_barometer_41 : decode cX4_barometer 41 = .ok (.iload_n 2, 1) := by decide +kernel
theorem dX4_barometer_42 : decode cX4_barometer 42 = .ok (.imul, 1) := by decide +kernel
theorem dX4_barometer_43 : decode cX4_barometer 43 = .ok (.ldc_w 265, 3) := by decide +kernel
theorem dX4_barometer_46 : decode cX4_barometer 46 = .ok (.idiv, 1) := by decide +kernel
theorem dX4_barometer_47 : decode cX4_barometer 47 = .ok (.isub, 1) := by decide +kernel
theorem dX4_barometer_48 : decode cX4_barometer 48 = .ok (.istore 5, 2) := by decide +kernel
theorem dX4_barometer_50 : decode cX4_barometer 50 = .ok (.iload 5, 2) := by decide +kernel
theorem dX4_barometer_52 : decode cX4_barometer 52 = .ok (.iload_n 3, 1) := by decide +kernel
theorem dX4_barometer_53 : decode cX4_barometer 53 = .ok (.imul, 1) := by decide +kernel
theorem dX4_barometer_54 : decode cX4_barometer 54 = .ok (.sipush 9807, 3) := by decide +kernel
theorem dX4_barometer_57 : decode cX4_barometer 57 = .ok (.idiv, 1) := by decide +kernel
theorem dX4_barometer_58 : decode cX4_barometer 58 = .ok (.bipush 60, 2) := by decide +kernel
theorem dX4_barometer_60 : decode cX4_barometer 60 = .ok (.iload 4, 2) := by decide +kernel
theorem dX4_barometer_62 : decode cX4_barometer 62 = .ok (.idiv, 1) := by decide +kernel
theorem dX4_barometer_63 : decode cX4_barometer 63 = .ok (.iadd, 1) := by decide +kernel
theorem dX4_barometer_64 : decode cX4_barometer 64 = .ok (.ireturn, 1) := by decide +kernel
theorem dX4_stock_0 : decode cX4_stock 0 = .ok (.aload_n 0, 1) := by decide +kernel
theorem dX4_stock_1 : decode cX4_stock 1 = .ok (.getfield 109, 3) := by decide +kernel
theorem dX4_stock_4 : decode cX4_stock 4 = .ok (.ireturn, 1) := by decide +kernel
theorem dX4_spilt_0 : decode cX4_spilt 0 = .ok (.aload_n 0, 1) := by decide +kernel
theorem dX4_spilt_1 : decode cX4_spilt 1 = .ok (.getfield 142, 3) := by decide +kernel
theorem dX4_spilt_4 : decode cX4_spilt 4 = .ok (.ireturn, 1) := by decide +kernel
set_option maxRecDepth 20000 in
theorem ggX4_checksum_X3_volumeUpTo : GoodIn wsX4_checksum wsX3_volumeUpTo := goodIn_r _ [11, 12, 13, 14, 10, 15, 16, 17, 18, 19, 20, 21, 22, 49, 50] (by decide +kernel) (by decide +kernel)
set_option maxRecDepth 20000 in
theorem gX4_checksum_X3_volumeUpTo : GoodIn wsX4_checksum (wsV RX4 61 RX3 yX3_volumeUpTo wsX3_volumeUpTo) := goodIn_app (goodIn_of _ (by decide +kernel)) ggX4_checksum_X3_volumeUpTo
set_option maxRecDepth 20000 in
theorem ggX4_checksum_X0_addTo : GoodIn wsX4_checksum wsX0_addTo := goodIn_r _ [27, 28, 29, 30, 31, 32, 33, 34, 35, 36, 37, 38, 39, 51, 52, 53, 54, 55, 56, 57, 58, 59, 60, 61, 62, 63, 64, 65, 66, 67, 68] (by decide +kernel) (by decide +kernel)
set_option maxRecDepth 20000 in
theorem gX4_checksum_X0_addTo : GoodIn wsX4_checksum (wsV RX4 270 RX0 yX0_addTo wsX0_addTo) := goodIn_app (goodIn_of _ (by decide +kernel)) ggX4_checksum_X0_addTo
theorem dX4_checksum_0 : decode cX4_checksum 0 = .ok (.ldc2_w 266, 3) := by decide +kernel
theorem dX4_checksum_3 : decode cX4_checksum 3 = .ok (.lstore_n 1, 1) := by decide +kernel
theorem dX4_checksum_4 : decode cX4_checksum 4 = .ok (.aload_n 0, 1) := by decide +kernel
theorem dX4_checksum_5 : decode cX4_checksum 5 = .ok (.getfield 11, 3) := by decide +kernel
theorem dX4_checksum_8 : decode cX4_checksum 8 = .ok (.astore_n 3, 1) := by decide +kernel
theorem dX4_checksum_9 : decode cX4_checksum 9 = .ok (.aload_n 3, 1) := by decide +kernel
theorem dX4_checksum_10 : decode cX4_checksum 10 = .ok (.arraylength, 1) := by decide +kernel
theorem dX4_checksum_11 : decode cX4_checksum 11 = .ok (.istore 4, 2) := by decide +kernel
theorem dX4_checksum_13 : decode cX4_checksum 13 = .ok (.iconst 0, 1) := by decide +kernel
theorem dX4_checksum_14 : decode cX4_checksum 14 = .ok (.istore 5, 2) := by decide +kernel
theorem dX4_checksum_16 : decode cX4_checksum 16 = .ok (.iload 5, 2) := by decide +kernel
theorem dX4_checksum_18 : decode cX4_checksum 18 = .ok (.iload 4, 2) := by decide +kernel
theorem dX4_checksum_20 : decode cX4_checksum 20 = .ok (.if_icmp .ge 36, 3) := by decide +kernel
theorem dX4_checksum_23 : decode cX4_checksum 23 = .ok (.aload_n 3, 1) := by decide +kernel
theorem dX4_checksum_24 : decode cX4_checksum 24 = .ok (.iload 5, 2) := by decide +kernel
theorem dX4_checksum_26 : decode cX4_checksum 26 = .ok (.aaload, 1) := by decide +kernel
theorem dX4_checksum_27 : decode cX4_checksum 27 = .ok (.astore 6, 2) := by decide +kernel
theorem dX4_checksum_29 : decode cX4_checksum 29 = .ok (.aload 6, 2) := by decide +kernel
theorem dX4_checksum_31 : decode cX4_checksum 31 = .ok (.ifnull 19, 3) := by decide +kernel
theorem dX4_checksum_34 : decode cX4_checksum 34 = .ok (.ldc2_w 268, 3) := by decide +kernel
theorem dX4_checksum_37 : decode cX4_checksum 37 = .ok (.lload_n 1, 1) := by decide +kernel
theorem dX4_checksum_38 : decode cX4_checksum 38 = .ok (.lmul, 1) := by decide +kernel
theorem dX4_checksum_39 : decode cX4_checksum 39 = .ok (.aload 6, 2) := by decide +kernel
theorem dX4_checksum_41 : decode cX4_checksum 41 = .ok (.sipush 200, 3) := by decide +kernel
theorem dX4_checksum_44 : decode cX4_checksum 44 = .ok (.invokevirtual 61, 3) := by decide +kernel
theorem dX4_checksum_47 : decode cX4_checksum 47 = .ok (.i2l, 1) := by decide +kernel
theorem dX4_checksum_48 : decode cX4_checksum 48 = .ok (.ladd, 1) := by decide +kernel
theorem dX4_checksum_49 : decode cX4_checksum 49 = .ok (.lstore_n 1, 1) := by decide +kernel
theorem dX4_checksum_50 : decode cX4_checksum 50 = .ok (.iinc 5 1, 3) := by decide +kernel
theorem dX4_checksum_53 : decode cX4_checksum 53 = .ok (.goto (-37), 3) := by decide +kernel
theorem dX4_checksum_56 : decode cX4_checksum 56 = .ok (.aload_n 0, 1) := by decide +kernel
theorem dX4_checksum_57 : decode cX4_checksum 57 = .ok (.getfield 17, 3) := by decide +kernel
theorem dX4_checksum_60 : decode cX4_checksum 60 = .ok (.astore_n 3, 1) := by decide +kernel
theorem dX4_checksum_61 : decode cX4_checksum 61 = .ok (.aload_n 3, 1) := by decide +kernel
theorem dX4_checksum_62 : decode cX4_checksum 62 = .ok (.arraylength, 1) := by decide +kernel
theorem dX4_checksum_63 : decode cX4_checksum 63 = .ok (.istore 4, 2) := by decide +kernel
theorem dX4_checksum_65 : decode cX4_checksum 65 = .ok (.iconst 0, 1) := by decide +kernel
theorem dX4_checksum_66 : decode cX4_checksum 66 = .ok (.istore 5, 2) := by decide +kernel
theorem dX4_checksum_68 : decode cX4_checksum 68 = .ok (.iload 5, 2) := by decide +kernel
theorem dX4_checksum_70 : decode cX4_checksum 70 = .ok (.iload 4, 2) := by decide +kernel
theorem dX4_checksum_72 : decode cX4_checksum 72 = .ok (.if_icmp .ge 27, 3) := by decide +kernel
theorem dX4_checksum_75 : decode cX4_checksum 75 = .ok (.aload_n 3, 1) := by decide +kernel
theorem dX4_checksum_76 : decode cX4_checksum 76 = .ok (.iload 5, 2) := by decide +kernel
theorem dX4_checksum_78 : decode cX4_checksum 78 = .ok (.aaload, 1) := by decide +kernel
theorem dX4_checksum_79 : decode cX4_checksum 79 = .ok (.astore 6, 2) := by decide +kernel
theorem dX4_checksum_81 : decode cX4_checksum 81 = .ok (.aload 6, 2) := by decide +kernel
theorem dX4_checksum_83 : decode cX4_checksum 83 = .ok (.ifnull 10, 3) := by decide +kernel
theorem dX4_checksum_86 : decode cX4_checksum 86 = .ok (.aload 6, 2) := by decide +kernel
theorem dX4_checksum_88 : decode cX4_checksum 88 = .ok (.lload_n 1, 1) := by decide +kernel
theorem dX4_checksum_89 : decode cX4_checksum 89 = .ok (.invokevirtual 270, 3) := by decide +kernel
theorem dX4_checksum_92 : decode cX4_checksum 92 = .ok (.lstore_n 1, 1) := by decide +kernel
theorem dX4_checksum_93 : decode cX4_checksum 93 = .ok (.iinc 5 1, 3) := by decide +kernel
theorem dX4_checksum_96 : decode cX4_checksum 96 = .ok (.goto (-28), 3) := by decide +kernel
theorem dX4_checksum_99 : decode cX4_checksum 99 = .ok (.ldc2_w 268, 3) := by decide +kernel
theorem dX4_checksum_102 : decode cX4_checksum 102 = .ok (.lload_n 1, 1) := by decide +kernel
theorem dX4_checksum_103 : decode cX4_checksum 103 = .ok (.lmul, 1) := by decide +kernel
theorem dX4_checksum_104 : decode cX4_checksum 104 = .ok (.aload_n 0, 1) := by decide +kernel
theorem dX4_checksum_105 : decode cX4_checksum 105 = .ok (.getfield 109, 3) := by decide +kernel
theorem dX4_checksum_108 : decode cX4_checksum 108 = .ok (.i2l, 1) := by decide +kernel
theorem dX4_checksum_109 : decode cX4_checksum 109 = .ok (.ladd, 1) := by decide +kernel
theorem dX4_checksum_110 : decode cX4_checksum 110 = .ok (.lstore_n 1, 1) := by decide +kernel
theorem dX4_checksum_111 : decode cX4_checksum 111 = .ok (.ldc2_w 268, 3) := by decide +kernel
theorem dX4_checksum_114 : decode cX4_checksum 114 = .ok (.lload_n 1, 1) := by decide +kernel
theorem dX4_checksum_115 : decode cX4_checksum 115 = .ok (.lmul, 1) := by decide +kernel
theorem dX4_checksum_116 : decode cX4_checksum 116 = .ok (.aload_n 0, 1) := by decide +kernel
theorem dX4_checksum_117 : decode cX4_checksum 117 = .ok (.getfield 154, 3) := by decide +kernel
theorem dX4_checksum_120 : decode cX4_checksum 120 = .ok (.i2l, 1) := by decide +kernel
theorem dX4_checksum_121 : decode cX4_checksum 121 = .ok (.ladd, 1) := by decide +kernel
theorem dX4_checksum_122 : decode cX4_checksum 122 = .ok (.lreturn, 1) := by decide +kernel
set_option maxRecDepth 20000 in
theorem ggX4_certifiedShare_X0_holdsCertificateOn : GoodIn wsX4_certifiedShare wsX0_holdsCertificateOn := goodIn_r _ [10, 11, 12, 22, 23, 24, 25, 26, 27, 28, 29, 30, 31, 32, 33, 34, 35, 36] (by decide +kernel) (by decide +kernel)
set_option maxRecDepth 20000 in
theorem gX4_certifiedShare_X0_holdsCertificateOn : GoodIn wsX4_certifiedShare (wsV RX4 248 RX0 yX0_holdsCertificateOn wsX0_holdsCertificateOn) := goodIn_app (goodIn_of _ (by decide +kernel)) ggX4_certifiedShare_X0_holdsCertificateOn
theorem dX4_certifiedShare_0 : decode cX4_certifiedShare 0 = .ok (.aload_n 0, 1) := by decide +kernel
theorem dX4_certifiedShare_1 : decode cX4_certifiedShare 1 = .ok (.getfield 94, 3) := by decide +kernel
theorem dX4_certifiedShare_4 : decode cX4_certifiedShare 4 = .ok (.ifCond .ne 14, 3) := by decide +kernel
theorem dX4_certifiedShare_7 : decode cX4_certifiedShare 7 = .ok (.new 68, 3) := by decide +kernel
theorem dX4_certifiedShare_10 : decode cX4_certifiedShare 10 = .ok (.dup, 1) := by decide +kernel
theorem dX4_certifiedShare_11 : decode cX4_certifiedShare 11 = .ok (.ldc_w 274, 3) := by decide +kernel
theorem dX4_certifiedShare_14 : decode cX4_certifiedShare 14 = .ok (.invokespecial 72, 3) := by decide +kernel
theorem dX4_certifiedShare_17 : decode cX4_certifiedShare 17 = .ok (.athrow, 1) := by decide +kernel
theorem dX4_certifiedShare_18 : decode cX4_certifiedShare 18 = .ok (.iconst 0, 1) := by decide +kernel
theorem dX4_certifiedShare_19 : decode cX4_certifiedShare 19 = .ok (.istore_n 1, 1) := by decide +kernel
theorem dX4_certifiedShare_20 : decode cX4_certifiedShare 20 = .ok (.aload_n 0, 1) := by decide +kernel
theorem dX4_certifiedShare_21 : decode cX4_certifiedShare 21 = .ok (.getfield 17, 3) := by decide +kernel
theorem dX4_certifiedShare_24 : decode cX4_certifiedShare 24 = .ok (.astore_n 2, 1) := by decide +kernel
theorem dX4_certifiedShare_25 : decode cX4_certifiedShare 25 = .ok (.aload_n 2, 1) := by decide +kernel
theorem dX4_certifiedShare_26 : decode cX4_certifiedShare 26 = .ok (.arraylength, 1) := by decide +kernel
theorem dX4_certifiedShare_27 : decode cX4_certifiedShare 27 = .ok (.istore_n 3, 1) := by decide +kernel
theorem dX4_certifiedShare_28 : decode cX4_certifiedShare 28 = .ok (.iconst 0, 1) := by decide +kernel
theorem dX4_certifiedShare_29 : decode cX4_certifiedShare 29 = .ok (.istore 4, 2) := by decide +kernel
theorem dX4_certifiedShare_31 : decode cX4_certifiedShare 31 = .ok (.iload 4, 2) := by decide +kernel
theorem dX4_certifiedShare_33 : decode cX4_certifiedShare 33 = .ok (.iload_n 3, 1) := by decide +kernel
theorem dX4_certifiedShare_34 : decode cX4_certifiedShare 34 = .ok (.if_icmp .ge 35, 3) := by decide +kernel
theorem dX4_certifiedShare_37 : decode cX4_certifiedShare 37 = .ok (.aload_n 2, 1) := by decide +kernel
theorem dX4_certifiedShare_38 : decode cX4_certifiedShare 38 = .ok (.iload 4, 2) := by decide +kernel
theorem dX4_certifiedShare_40 : decode cX4_certifiedShare 40 = .ok (.aaload, 1) := by decide +kernel
theorem dX4_certifiedShare_41 : decode cX4_certifiedShare 41 = .ok (.astore 5, 2) := by decide +kernel
theorem dX4_certifiedShare_43 : decode cX4_certifiedShare 43 = .ok (.aload 5, 2) := by decide +kernel
theorem dX4_certifiedShare_45 : decode cX4_certifiedShare 45 = .ok (.ifnull 18, 3) := by decide +kernel
theorem dX4_certifiedShare_48 : decode cX4_certifiedShare 48 = .ok (.aload 5, 2) := by decide +kernel
theorem dX4_certifiedShare_50 : decode cX4_certifiedShare 50 = .ok (.aload_n 0, 1) := by decide +kernel
theorem dX4_certifiedShare_51 : decode cX4_certifiedShare 51 = .ok (.getfield 154, 3) := by decide +kernel
theorem dX4_certifiedShare_54 : decode cX4_certifiedShare 54 = .ok (.invokevirtual 248, 3) := by decide +kernel
theorem dX4_certifiedShare_57 : decode cX4_certifiedShare 57 = .ok (.ifCond .eq 6, 3) := by decide +kernel
theorem dX4_certifiedShare_60 : decode cX4_certifiedShare 60 = .ok (.iinc 1 1, 3) := by decide +kernel
theorem dX4_certifiedShare_63 : decode cX4_certifiedShare 63 = .ok (.iinc 4 1, 3) := by decide +kernel
theorem dX4_certifiedShare_66 : decode cX4_certifiedShare 66 = .ok (.goto (-35), 3) := by decide +kernel
theorem dX4_certifiedShare_69 : decode cX4_certifiedShare 69 = .ok (.iload_n 1, 1) := by decide +kernel
theorem dX4_certifiedShare_70 : decode cX4_certifiedShare 70 = .ok (.i2f, 1) := by decide +kernel
theorem dX4_certifiedShare_71 : decode cX4_certifiedShare 71 = .ok (.aload_n 0, 1) := by decide +kernel
theorem dX4_certifiedShare_72 : decode cX4_certifiedShare 72 = .ok (.getfield 94, 3) := by decide +kernel
theorem dX4_certifiedShare_75 : decode cX4_certifiedShare 75 = .ok (.i2f, 1) := by decide +kernel
theorem dX4_certifiedShare_76 : decode cX4_certifiedShare 76 = .ok (.fdiv, 1) := by decide +kernel
theorem dX4_certifiedShare_77 : decode cX4_certifiedShare 77 = .ok (.freturn, 1) := by decide +kernel
set_option maxRecDepth 20000 in
theorem ggX4_meanError_X4_instrumentNumbered : GoodIn wsX4_meanError wsX4_instrumentNumbered := goodIn_ca (goodIn_r _ [5, 6, 7, 8, 39, 40, 41, 42, 43, 44, 45, 46, 47] (by decide +kernel) (by decide +kernel)) (goodIn_sub (fun _ h => List.mem_cons_of_mem _ (List.mem_append_left _ (List.mem_append_right _ h))) (by decide +kernel))
set_option maxRecDepth 20000 in
theorem gX4_meanError_X4_instrumentNumbered : GoodIn wsX4_meanError (wsV RX4 112 RX4 yX4_instrumentNumbered wsX4_instrumentNumbered) := goodIn_app (goodIn_of _ (by decide +kernel)) ggX4_meanError_X4_instrumentNumbered
set_option maxRecDepth 20000 in
theorem ggX4_meanError_X4_demandReadings : GoodIn wsX4_meanError wsX4_demandReadings := goodIn_ca (goodIn_r _ [11, 12, 13, 36, 37, 38] (by decide +kernel) (by decide +kernel)) (goodIn_sub (fun _ h => List.mem_cons_of_mem _ (List.mem_append_right _ h)) (by decide +kernel))
set_option maxRecDepth 20000 in
theorem gX4_meanError_X4_demandReadings : GoodIn wsX4_meanError (va_wsS RX4 218 yX4_demandReadings wsX4_demandReadings) := goodIn_app (goodIn_of _ (by decide +kernel)) ggX4_meanError_X4_demandReadings
set_option maxRecDepth 20000 in
theorem ggX4_meanError_X1_errorSum : GoodIn wsX4_meanError wsX1_errorSum := goodIn_r _ [18, 19, 20, 36, 37, 38] (by decide +kernel) (by decide +kernel)
set_option maxRecDepth 20000 in
theorem gX4_meanError_X1_errorSum : GoodIn wsX4_meanError (wsV RX4 276 RX1 yX1_errorSum wsX1_errorSum) := goodIn_app (goodIn_of _ (by decide +kernel)) ggX4_meanError_X1_errorSum
theorem dX4_meanError_0 : decode cX4_meanError 0 = .ok (.aload_n 0, 1) := by decide +kernel
theorem dX4_meanError_1 : decode cX4_meanError 1 = .ok (.iload_n 1, 1) := by decide +kernel
theorem dX4_meanError_2 : decode cX4_meanError 2 = .ok (.invokevirtual 112, 3) := by decide +kernel
theorem dX4_meanError_5 : decode cX4_meanError 5 = .ok (.getfield 214, 3) := by decide +kernel
theorem dX4_meanError_8 : decode cX4_meanError 8 = .ok (.astore_n 2, 1) := by decide +kernel
theorem dX4_meanError_9 : decode cX4_meanError 9 = .ok (.aload_n 2, 1) := by decide +kernel
theorem dX4_meanError_10 : decode cX4_meanError 10 = .ok (.invokestatic 218, 3) := by decide +kernel
theorem dX4_meanError_13 : decode cX4_meanError 13 = .ok (.aload_n 2, 1) := by decide +kernel
theorem dX4_meanError_14 : decode cX4_meanError 14 = .ok (.invokevirtual 276, 3) := by decide +kernel
theorem dX4_meanError_17 : decode cX4_meanError 17 = .ok (.i2d, 1) := by decide +kernel
theorem dX4_meanError_18 : decode cX4_meanError 18 = .ok (.aload_n 2, 1) := by decide +kernel
theorem dX4_meanError_19 : decode cX4_meanError 19 = .ok (.getfield 227, 3) := by decide +kernel
theorem dX4_meanError_22 : decode cX4_meanError 22 = .ok (.i2d, 1) := by decide +kernel
theorem dX4_meanError_23 : decode cX4_meanError 23 = .ok (.ddiv, 1) := by decide +kernel
theorem dX4_meanError_24 : decode cX4_meanError 24 = .ok (.dreturn, 1) := by decide +kernel
set_option maxRecDepth 20000 in
theorem ggX4_isSound_X0_mercuryInside : GoodIn wsX4_isSound wsX0_mercuryInside := goodIn_r _ [9, 10, 11, 38, 39, 40, 41, 42, 43, 44, 45, 46, 47, 48, 49, 50, 51, 52] (by decide +kernel) (by decide +kernel)
set_option maxRecDepth 20000 in
theorem gX4_isSound_X0_mercuryInside : GoodIn wsX4_isSound (wsV RX4 145 RX0 yX0_mercuryInside wsX0_mercuryInside) := goodIn_app (goodIn_of _ (by decide +kernel)) ggX4_isSound_X0_mercuryInside
set_option maxRecDepth 20000 in
theorem ggX4_isSound_X0_isInBounds : GoodIn wsX4_isSound wsX0_isInBounds := goodIn_r _ [15, 16, 17, 18, 19, 20, 8, 21, 22, 23, 38, 39, 40, 41, 42, 43, 44, 45, 46, 47, 48, 49, 50, 51, 52, 53, 54, 55] (by decide +kernel) (by decide +kernel)
set_option maxRecDepth 20000 in
theorem gX4_isSound_X0_isInBounds : GoodIn wsX4_isSound (wsV RX4 279 RX0 yX0_isInBounds wsX0_isInBounds) := goodIn_app (goodIn_of _ (by decide +kernel)) ggX4_isSound_X0_isInBounds
set_option maxRecDepth 20000 in
theorem ggX4_isSound_X4_instrumentsOfTube : GoodIn wsX4_isSound wsX4_instrumentsOfTube := goodIn_r _ [28, 3, 29, 30, 31, 32, 33, 34, 35, 36, 37, 38, 39, 40, 41, 42, 43, 44, 45, 46, 47, 48, 49, 50, 51, 52] (by decide +kernel) (by decide +kernel)
set_option maxRecDepth 20000 in
theorem gX4_isSound_X4_instrumentsOfTube : GoodIn wsX4_isSound (wsV RX4 285 RX4 yX4_instrumentsOfTube wsX4_instrumentsOfTube) := goodIn_app (goodIn_of _ (by decide +kernel)) ggX4_isSound_X4_instrumentsOfTube
theorem dX4_isSound_0 : decode cX4_isSound 0 = .ok (.aload_n 0, 1) := by decide +kernel
theorem dX4_isSound_1 : decode cX4_isSound 1 = .ok (.getfield 109, 3) := by decide +kernel
theorem dX4_isSound_4 : decode cX4_isSound 4 = .ok (.aload_n 0, 1) := by decide +kernel
theorem dX4_isSound_5 : decode cX4_isSound 5 = .ok (.getfield 142, 3) := by decide +kernel
theorem dX4_isSound_8 : decode cX4_isSound 8 = .ok (.iadd, 1) := by decide +kernel
theorem dX4_isSound_9 : decode cX4_isSound 9 = .ok (.istore_n 1, 1) := by decide +kernel
theorem dX4_isSound_10 : decode cX4_isSound 10 = .ok (.aload_n 0, 1) := by decide +kernel
theorem dX4_isSound_11 : decode cX4_isSound 11 = .ok (.getfield 17, 3) := by decide +kernel
theorem dX4_isSound_14 : decode cX4_isSound 14 = .ok (.astore_n 2, 1) := by decide +kernel
theorem dX4_isSound_15 : decode cX4_isSound 15 = .ok (.aload_n 2, 1) := by decide +kernel
theorem dX4_isSound_16 : decode cX4_isSound 16 = .ok (.arraylength, 1) := by decide +kernel
theorem dX4_isSound_17 : decode cX4_isSound 17 = .ok (.istore_n 3, 1) := by decide +kernel
theorem dX4_isSound_18 : decode cX4_isSound 18 = .ok (.iconst 0, 1) := by decide +kernel
theorem dX4_isSound_19 : decode cX4_isSound 19 = .ok (.istore 4, 2) := by decide +kernel
theorem dX4_isSound_21 : decode cX4_isSound 21 = .ok (.iload 4, 2) := by decide +kernel
theorem dX4_isSound_23 : decode cX4_isSound 23 = .ok (.iload_n 3, 1) := by decide +kernel
theorem dX4_isSound_24 : decode cX4_isSound 24 = .ok (.if_icmp .ge 54, 3) := by decide +kernel
theorem dX4_isSound_27 : decode cX4_isSound 27 = .ok (.aload_n 2, 1) := by decide +kernel
theorem dX4_isSound_28 : decode cX4_isSound 28 = .ok (.iload 4, 2) := by decide +kernel
theorem dX4_isSound_30 : decode cX4_isSound 30 = .ok (.aaload, 1) := by decide +kernel
theorem dX4_isSound_31 : decode cX4_isSound 31 = .ok (.astore 5, 2) := by decide +kernel
theorem dX4_isSound_33 : decode cX4_isSound 33 = .ok (.aload 5, 2) := by decide +kernel
theorem dX4_isSound_35 : decode cX4_isSound 35 = .ok (.ifnonnull 6, 3) := by decide +kernel
theorem dX4_isSound_38 : decode cX4_isSound 38 = .ok (.goto 34, 3) := by decide +kernel
theorem dX4_isSound_41 : decode cX4_isSound 41 = .ok (.iload_n 1, 1) := by decide +kernel
theorem dX4_isSound_42 : decode cX4_isSound 42 = .ok (.aload 5, 2) := by decide +kernel
theorem dX4_isSound_44 : decode cX4_isSound 44 = .ok (.invokevirtual 145, 3) := by decide +kernel
theorem dX4_isSound_47 : decode cX4_isSound 47 = .ok (.iadd, 1) := by decide +kernel
theorem dX4_isSound_48 : decode cX4_isSound 48 = .ok (.istore_n 1, 1) := by decide +kernel
theorem dX4_isSound_49 : decode cX4_isSound 49 = .ok (.aload 5, 2) := by decide +kernel
theorem dX4_isSound_51 : decode cX4_isSound 51 = .ok (.invokevirtual 279, 3) := by decide +kernel
theorem dX4_isSound_54 : decode cX4_isSound 54 = .ok (.ifCond .eq 16, 3) := by decide +kernel
theorem dX4_isSound_57 : decode cX4_isSound 57 = .ok (.aload_n 0, 1) := by decide +kernel
theorem dX4_isSound_58 : decode cX4_isSound 58 = .ok (.aload 5, 2) := by decide +kernel
theorem dX4_isSound_60 : decode cX4_isSound 60 = .ok (.getfield 282, 3) := by decide +kernel
theorem dX4_isSound_63 : decode cX4_isSound 63 = .ok (.invokevirtual 285, 3) := by decide +kernel
theorem dX4_isSound_66 : decode cX4_isSound 66 = .ok (.iconst 1, 1) := by decide +kernel
theorem dX4_isSound_67 : decode cX4_isSound 67 = .ok (.if_icmp .le 5, 3) := by decide +kernel
theorem dX4_isSound_70 : decode cX4_isSound 70 = .ok (.iconst 0, 1) := by decide +kernel
theorem dX4_isSound_71 : decode cX4_isSound 71 = .ok (.ireturn, 1) := by decide +kernel
theorem dX4_isSound_72 : decode cX4_isSound 72 = .ok (.iinc 4 1, 3) := by decide +kernel
theorem dX4_isSound_75 : decode cX4_isSound 75 = .ok (.goto (-54), 3) := by decide +kernel
theorem dX4_isSound_78 : decode cX4_isSound 78 = .ok (.iload_n 1, 1) := by decide +kernel
theorem dX4_isSound_79 : decode cX4_isSound 79 = .ok (.aload_n 0, 1) := by decide +kernel
theorem dX4_isSound_80 : decode cX4_isSound 80 = .ok (.getfield 106, 3) := by decide +kernel
theorem dX4_isSound_83 : decode cX4_isSound 83 = .ok (.if_icmp .ne 7, 3) := by decide +kernel
theorem dX4_isSound_86 : decode cX4_isSound 86 = .ok (.iconst 1, 1) := by decide +kernel
theorem dX4_isSound_87 : decode cX4_isSound 87 = .ok (.goto 4, 3) := by decide +kernel
theorem dX4_isSound_90 : decode cX4_isSound 90 = .ok (.iconst 0, 1) := by decide +kernel
theorem dX4_isSound_91 : decode cX4_isSound 91 = .ok (.ireturn, 1) := by decide +kernel
theorem dX4_instrumentsOfTube_0 : decode cX4_instrumentsOfTube 0 = .ok (.iconst 0, 1) := by decide +kernel
theorem dX4_instrumentsOfTube_1 : decode cX4_instrumentsOfTube 1 = .ok (.istore_n 2, 1) := by decide +kernel
theorem dX4_instrumentsOfTube_2 : decode cX4_instrumentsOfTube 2 = .ok (.aload_n 0, 1) := by decide +kernel
theorem dX4_instrumentsOfTube_3 : decode cX4_instrumentsOfTube 3 = .ok (.getfield 17, 3) := by decide +kernel
theorem dX4_instrumentsOfTube_6 : decode cX4_instrumentsOfTube 6 = .ok (.astore_n 3, 1) := by decide +kernel
theorem dX4_instrumentsOfTube_7 : decode cX4_instrumentsOfTube 7 = .ok (.aload_n 3, 1) := by decide +kernel
theorem dX4_instrumentsOfTube_8 : decode cX4_instrumentsOfTube 8 = .ok (.arraylength, 1) := by decide +kernel
theorem dX4_instrumentsOfTube_9 : decode cX4_instrumentsOfTube 9 = .ok (.istore 4, 2) := by decide +kernel
theorem dX4_instrumentsOfTube_11 : decode cX4_instrumentsOfTube 11 = .ok (.iconst 0, 1) := by decide +kernel
theorem dX4_instrumentsOfTube_12 : decode cX4_instrumentsOfTube 12 = .ok (.istore 5, 2) := by decide +kernel
theorem dX4_instrumentsOfTube_14 : decode cX4_instrumentsOfTube 14 = .ok (.iload 5, 2) := by decide +kernel
theorem dX4_instrumentsOfTube_16 : decode cX4_instrumentsOfTube 16 = .ok (.iload 4, 2) := by decide +kernel
theorem dX4_instrumentsOfTube_18 : decode cX4_instrumentsOfTube 18 = .ok (.if_icmp .ge 32, 3) := by decide +kernel
theorem dX4_instrumentsOfTube_21 : decode cX4_instrumentsOfTube 21 = .ok (.aload_n 3, 1) := by decide +kernel
theorem dX4_instrumentsOfTube_22 : decode cX4_instrumentsOfTube 22 = .ok (.iload 5, 2) := by decide +kernel
theorem dX4_instrumentsOfTube_24 : decode cX4_instrumentsOfTube 24 = .ok (.aaload, 1) := by decide +kernel
theorem dX4_instrumentsOfTube_25 : decode cX4_instrumentsOfTube 25 = .ok (.astore 6, 2) := by decide +kernel
theorem dX4_instrumentsOfTube_27 : decode cX4_instrumentsOfTube 27 = .ok (.aload 6, 2) := by decide +kernel
theorem dX4_instrumentsOfTube_29 : decode cX4_instrumentsOfTube 29 = .ok (.ifnull 15, 3) := by decide +kernel
theorem dX4_instrumentsOfTube_32 : decode cX4_instrumentsOfTube 32 = .ok (.aload 6, 2) := by decide +kernel
theorem dX4_instrumentsOfTube_34 : decode cX4_instrumentsOfTube 34 = .ok (.getfield 282, 3) := by decide +kernel
theorem dX4_instrumentsOfTube_37 : decode cX4_instrumentsOfTube 37 = .ok (.iload_n 1, 1) := by decide +kernel
theorem dX4_instrumentsOfTube_38 : decode cX4_instrumentsOfTube 38 = .ok (.if_icmp .ne 6, 3) := by decide +kernel
theorem dX4_instrumentsOfTube_41 : decode cX4_instrumentsOfTube 41 = .ok (.iinc 2 1, 3) := by decide +kernel
theorem dX4_instrumentsOfTube_44 : decode cX4_instrumentsOfTube 44 = .ok (.iinc 5 1, 3) := by decide +kernel
theorem dX4_instrumentsOfTube_47 : decode cX4_instrumentsOfTube 47 = .ok (.goto (-33), 3) := by decide +kernel
theorem dX4_instrumentsOfTube_50 : decode cX4_instrumentsOfTube 50 = .ok (.iload_n 2, 1) := by decide +kernel
theorem dX4_instrumentsOfTube_51 : decode cX4_instrumentsOfTube 51 = .ok (.ireturn, 1) := by decide +kernel
theorem dX4_tubeNumbered_0 : decode cX4_tubeNumbered 0 = .ok (.iload_n 1, 1) := by decide +kernel
theorem dX4_tubeNumbered_1 : decode cX4_tubeNumbered 1 = .ok (.ifCond .lt 21, 3) := by decide +kernel
theorem dX4_tubeNumbered_4 : decode cX4_tubeNumbered 4 = .ok (.iload_n 1, 1) := by decide +kernel
theorem dX4_tubeNumbered_5 : decode cX4_tubeNumbered 5 = .ok (.aload_n 0, 1) := by decide +kernel
theorem dX4_tubeNumbered_6 : decode cX4_tubeNumbered 6 = .ok (.getfield 11, 3) := by decide +kernel
theorem dX4_tubeNumbered_9 : decode cX4_tubeNumbered 9 = .ok (.arraylength, 1) := by decide +kernel
theorem dX4_tubeNumbered_10 : decode cX4_tubeNumbered 10 = .ok (.if_icmp .ge 12, 3) := by decide +kernel
theorem dX4_tubeNumbered_13 : decode cX4_tubeNumbered 13 = .ok (.aload_n 0, 1) := by decide +kernel
theorem dX4_tubeNumbered_14 : decode cX4_tubeNumbered 14 = .ok (.getfield 11, 3) := by decide +kernel
theorem dX4_tubeNumbered_17 : decode cX4_tubeNumbered 17 = .ok (.iload_n 1, 1) := by decide +kernel
theorem dX4_tubeNumbered_18 : decode cX4_tubeNumbered 18 = .ok (.aaload, 1) := by decide +kernel
theorem dX4_tubeNumbered_19 : decode cX4_tubeNumbered 19 = .ok (.ifnonnull 14, 3) := by decide +kernel
theorem dX4_tubeNumbered_22 : decode cX4_tubeNumbered 22 = .ok (.new 288, 3) := by decide +kernel
theorem dX4_tubeNumbered_25 : decode cX4_tubeNumbered 25 = .ok (.dup, 1) := by decide +kernel
theorem dX4_tubeNumbered_26 : decode cX4_tubeNumbered 26 = .ok (.ldc_w 290, 3) := by decide +kernel
theorem dX4_tubeNumbered_29 : decode cX4_tubeNumbered 29 = .ok (.invokespecial 292, 3) := by decide +kernel
theorem dX4_tubeNumbered_32 : decode cX4_tubeNumbered 32 = .ok (.athrow, 1) := by decide +kernel
theorem dX4_tubeNumbered_33 : decode cX4_tubeNumbered 33 = .ok (.aload_n 0, 1) := by decide +kernel
theorem dX4_tubeNumbered_34 : decode cX4_tubeNumbered 34 = .ok (.getfield 11, 3) := by decide +kernel
theorem dX4_tubeNumbered_37 : decode cX4_tubeNumbered 37 = .ok (.iload_n 1, 1) := by decide +kernel
theorem dX4_tubeNumbered_38 : decode cX4_tubeNumbered 38 = .ok (.aaload, 1) := by decide +kernel
theorem dX4_tubeNumbered_39 : decode cX4_tubeNumbered 39 = .ok (.areturn, 1) := by decide +kernel
theorem dX4_instrumentNumbered_0 : decode cX4_instrumentNumbered 0 = .ok (.iload_n 1, 1) := by decide +kernel
theorem dX4_instrumentNumbered_1 : decode cX4_instrumentNumbered 1 = .ok (.ifCond .lt 21, 3) := by decide +kernel
theorem dX4_instrumentNumbered_4 : decode cX4_instrumentNumbered 4 = .ok (.iload_n 1, 1) := by decide +kernel
theorem dX4_instrumentNumbered_5 : decode cX4_instrumentNumbered 5 = .ok (.aload_n 0, 1) := by decide +kernel
theorem dX4_instrumentNumbered_6 : decode cX4_instrumentNumbered 6 = .ok (.getfield 17, 3) := by decide +kernel
theorem dX4_instrumentNumbered_9 : decode cX4_instrumentNumbered 9 = .ok (.arraylength, 1) := by decide +kernel
theorem dX4_instrumentNumbered_10 : decode cX4_instrumentNumbered 10 = .ok (.if_icmp .ge 12, 3) := by decide +kernel
theorem dX4_instrumentNumbered_13 : decode cX4_instrumentNumbered 13 = .ok (.aload_n 0, 1) := by decide +kernel
theorem dX4_instrumentNumbered_14 : decode cX4_instrumentNumbered 14 = .ok (.getfield 17, 3) := by decide +kernel
theorem dX4_instrumentNumbered_17 : decode cX4_instrumentNumbered 17 = .ok (.iload_n 1, 1) := by decide +kernel
theorem dX4_instrumentNumbered_18 : decode cX4_instrumentNumbered 18 = .ok (.aaload, 1) := by decide +kernel
theorem dX4_instrumentNumbered_19 : decode cX4_instrumentNumbered 19 = .ok (.ifnonnull 14, 3) := by decide +kernel
theorem dX4_instrumentNumbered_22 : decode cX4_instrumentNumbered 22 = .ok (.new 288, 3) := by decide +kernel
theorem dX4_instrumentNumbered_25 : decode cX4_instrumentNumbered 25 = .ok (.dup, 1) := by decide +kernel
theorem dX4_instrumentNumbered_26 : decode cX4_instrumentNumbered 26 = .ok (.ldc_w 293, 3) := by decide +kernel
theorem dX4_instrumentNumbered_29 : decode cX4_instrumentNumbered 29 = .ok (.invokespecial 292, 3) := by decide +kernel
theorem dX4_instrumentNumbered_32 : decode cX4_instrumentNumbered 32 = .ok (.athrow, 1) := by decide +kernel
theorem dX4_instrumentNumbered_33 : decode cX4_instrumentNumbered 33 = .ok (.aload_n 0, 1) := by decide +kernel
theorem dX4_instrumentNumbered_34 : decode cX4_instrumentNumbered 34 = .ok (.getfield 17, 3) := by decide +kernel
theorem dX4_instrumentNumbered_37 : decode cX4_instrumentNumbered 37 = .ok (.iload_n 1, 1) := by decide +kernel
theorem dX4_instrumentNumbered_38 : decode cX4_instrumentNumbered 38 = .ok (.aaload, 1) := by decide +kernel
theorem dX4_instrumentNumbered_39 : decode cX4_instrumentNumbered 39 = .ok (.areturn, 1) := by decide +kernel
set_option maxRecDepth 20000 in
theorem ggX4_levelFound_X0_levelAt : GoodIn wsX4_levelFound wsX0_levelAt := goodIn_r _ [8, 9, 10, 11, 12, 7, 13, 14, 15, 16, 17, 18, 19, 20, 21, 22, 23, 24, 25, 26, 27, 28, 29, 30, 31, 32, 33, 34, 35, 36, 37, 38, 39, 40, 41, 42, 43, 44, 45, 46, 47, 48, 49, 50, 51, 61, 62, 63, 64, 65, 66, 67, 68, 69, 70, 71, 72, 73, 74, 75, 76, 77] (by decide +kernel) (by decide +kernel)
set_option maxRecDepth 20000 in
theorem gX4_levelFound_X0_levelAt : GoodIn wsX4_levelFound (wsV RX4 295 RX0 yX0_levelAt wsX0_levelAt) := goodIn_app (goodIn_of _ (by decide +kernel)) ggX4_levelFound_X0_levelAt
theorem dX4_levelFound_0 : decode cX4_levelFound 0 = .ok (.aload_n 1, 1) := by decide +kernel
theorem dX4_levelFound_1 : decode cX4_levelFound 1 = .ok (.iload_n 2, 1) := by decide +kernel
theorem dX4_levelFound_2 : decode cX4_levelFound 2 = .ok (.iload_n 3, 1) := by decide +kernel
theorem dX4_levelFound_3 : decode cX4_levelFound 3 = .ok (.aload_n 0, 1) := by decide +kernel
theorem dX4_levelFound_4 : decode cX4_levelFound 4 = .ok (.getfield 21, 3) := by decide +kernel
theorem dX4_levelFound_7 : decode cX4_levelFound 7 = .ok (.invokevirtual 295, 3) := by decide +kernel
theorem dX4_levelFound_10 : decode cX4_levelFound 10 = .ok (.istore 4, 2) := by decide +kernel
theorem dX4_levelFound_12 : decode cX4_levelFound 12 = .ok (.iload 4, 2) := by decide +kernel
theorem dX4_levelFound_14 : decode cX4_levelFound 14 = .ok (.iconst (-1), 1) := by decide +kernel
theorem dX4_levelFound_15 : decode cX4_levelFound 15 = .ok (.if_icmp .ne 14, 3) := by decide +kernel
theorem dX4_levelFound_18 : decode cX4_levelFound 18 = .ok (.new 68, 3) := by decide +kernel
theorem dX4_levelFound_21 : decode cX4_levelFound 21 = .ok (.dup, 1) := by decide +kernel
theorem dX4_levelFound_22 : decode cX4_levelFound 22 = .ok (.ldc_w 298, 3) := by decide +kernel
theorem dX4_levelFound_25 : decode cX4_levelFound 25 = .ok (.invokespecial 72, 3) := by decide +kernel
theorem dX4_levelFound_28 : decode cX4_levelFound 28 = .ok (.athrow, 1) := by decide +kernel
theorem dX4_levelFound_29 : decode cX4_levelFound 29 = .ok (.iload 4, 2) := by decide +kernel
theorem dX4_levelFound_31 : decode cX4_levelFound 31 = .ok (.ireturn, 1) := by decide +kernel
theorem dX4_takeFromStock_0 : decode cX4_takeFromStock 0 = .ok (.iload_n 1, 1) := by decide +kernel
theorem dX4_takeFromStock_1 : decode cX4_takeFromStock 1 = .ok (.aload_n 0, 1) := by decide +kernel
theorem dX4_takeFromStock_2 : decode cX4_takeFromStock 2 = .ok (.getfield 109, 3) := by decide +kernel
theorem dX4_takeFromStock_5 : decode cX4_takeFromStock 5 = .ok (.if_icmp .le 14, 3) := by decide +kernel
theorem dX4_takeFromStock_8 : decode cX4_takeFromStock 8 = .ok (.new 122, 3) := by decide +kernel
theorem dX4_takeFromStock_11 : decode cX4_takeFromStock 11 = .ok (.dup, 1) := by decide +kernel
theorem dX4_takeFromStock_12 : decode cX4_takeFromStock 12 = .ok (.ldc_w 300, 3) := by decide +kernel
theorem dX4_takeFromStock_15 : decode cX4_takeFromStock 15 = .ok (.invokespecial 126, 3) := by decide +kernel
theorem dX4_takeFromStock_18 : decode cX4_takeFromStock 18 = .ok (.athrow, 1) := by decide +kernel
theorem dX4_takeFromStock_19 : decode cX4_takeFromStock 19 = .ok (.aload_n 0, 1) := by decide +kernel
theorem dX4_takeFromStock_20 : decode cX4_takeFromStock 20 = .ok (.dup, 1) := by decide +kernel
theorem dX4_takeFromStock_21 : decode cX4_takeFromStock 21 = .ok (.getfield 109, 3) := by decide +kernel
theorem dX4_takeFromStock_24 : decode cX4_takeFromStock 24 = .ok (.iload_n 1, 1) := by decide +kernel
theorem dX4_takeFromStock_25 : decode cX4_takeFromStock 25 = .ok (.isub, 1) := by decide +kernel
theorem dX4_takeFromStock_26 : decode cX4_takeFromStock 26 = .ok (.putfield 109, 3) := by decide +kernel
theorem dX4_takeFromStock_29 : decode cX4_takeFromStock 29 = .ok (.return_, 1) := by decide +kernel
theorem dX4_demandRange_0 : decode cX4_demandRange 0 = .ok (.iload_n 0, 1) := by decide +kernel
theorem dX4_demandRange_1 : decode cX4_demandRange 1 = .ok (.iload_n 1, 1) := by decide +kernel
theorem dX4_demandRange_2 : decode cX4_demandRange 2 = .ok (.if_icmp .lt 8, 3) := by decide +kernel
theorem dX4_demandRange_5 : decode cX4_demandRange 5 = .ok (.iload_n 0, 1) := by decide +kernel
theorem dX4_demandRange_6 : decode cX4_demandRange 6 = .ok (.iload_n 2, 1) := by decide +kernel
theorem dX4_demandRange_7 : decode cX4_demandRange 7 = .ok (.if_icmp .le 14, 3) := by decide +kernel
theorem dX4_demandRange_10 : decode cX4_demandRange 10 = .ok (.new 77, 3) := by decide +kernel
theorem dX4_demandRange_13 : decode cX4_demandRange 13 = .ok (.dup, 1) := by decide +kernel
theorem dX4_demandRange_14 : decode cX4_demandRange 14 = .ok (.ldc_w 302, 3) := by decide +kernel
theorem dX4_demandRange_17 : decode cX4_demandRange 17 = .ok (.invokespecial 81, 3) := by decide +kernel
theorem dX4_demandRange_20 : decode cX4_demandRange 20 = .ok (.athrow, 1) := by decide +kernel
theorem dX4_demandRange_21 : decode cX4_demandRange 21 = .ok (.return_, 1) := by decide +kernel
set_option maxRecDepth 20000 in
theorem ggX4_demandPlace_X4_demandRange : GoodIn wsX4_demandPlace wsX4_demandRange := goodIn_ca (goodIn_r _ [4, 5, 6] (by decide +kernel) (by decide +kernel)) (goodIn_sub (fun _ h => List.mem_cons_of_mem _ (List.mem_append_right _ h)) (by decide +kernel))
set_option maxRecDepth 20000 in
theorem gX4_demandPlace_X4_demandRange : GoodIn wsX4_demandPlace (va_wsS RX4 25 yX4_demandRange wsX4_demandRange) := goodIn_app (goodIn_of _ (by decide +kernel)) ggX4_demandPlace_X4_demandRange
theorem dX4_demandPlace_0 : decode cX4_demandPlace 0 = .ok (.iload_n 0, 1) := by decide +kernel
theorem dX4_demandPlace_1 : decode cX4_demandPlace 1 = .ok (.iconst 0, 1) := by decide +kernel
theorem dX4_demandPlace_2 : decode cX4_demandPlace 2 = .ok (.sipush 200, 3) := by decide +kernel
theorem dX4_demandPlace_5 : decode cX4_demandPlace 5 = .ok (.invokestatic 25, 3) := by decide +kernel
theorem dX4_demandPlace_8 : decode cX4_demandPlace 8 = .ok (.return_, 1) := by decide +kernel
set_option maxRecDepth 20000 in
theorem ggX4_demandTemperature_X4_demandRange : GoodIn wsX4_demandTemperature wsX4_demandRange := goodIn_ca (goodIn_r _ [4, 5, 6] (by decide +kernel) (by decide +kernel)) (goodIn_sub (fun _ h => List.mem_cons_of_mem _ (List.mem_append_right _ h)) (by decide +kernel))
set_option maxRecDepth 20000 in
theorem gX4_demandTemperature_X4_demandRange : GoodIn wsX4_demandTemperature (va_wsS RX4 25 yX4_demandRange wsX4_demandRange) := goodIn_app (goodIn_of _ (by decide +kernel)) ggX4_demandTemperature_X4_demandRange
theorem dX4_demandTemperature_0 : decode cX4_demandTemperature 0 = .ok (.iload_n 0, 1) := by decide +kernel
theorem dX4_demandTemperature_1 : decode cX4_demandTemperature 1 = .ok (.sipush (-300), 3) := by decide +kernel
theorem dX4_demandTemperature_4 : decode cX4_demandTemperature 4 = .ok (.sipush 3000, 3) := by decide +kernel
theorem dX4_demandTemperature_7 : decode cX4_demandTemperature 7 = .ok (.invokestatic 25, 3) := by decide +kernel
theorem dX4_demandTemperature_10 : decode cX4_demandTemperature 10 = .ok (.return_, 1) := by decide +kernel
set_option maxRecDepth 20000 in
theorem ggX4_demandPressure_X4_demandRange : GoodIn wsX4_demandPressure wsX4_demandRange := goodIn_ca (goodIn_r _ [4, 5, 6] (by decide +kernel) (by decide +kernel)) (goodIn_sub (fun _ h => List.mem_cons_of_mem _ (List.mem_append_right _ h)) (by decide +kernel))
set_option maxRecDepth 20000 in
theorem gX4_demandPressure_X4_demandRange : GoodIn wsX4_demandPressure (va_wsS RX4 25 yX4_demandRange wsX4_demandRange) := goodIn_app (goodIn_of _ (by decide +kernel)) ggX4_demandPressure_X4_demandRange
theorem dX4_demandPressure_0 : decode cX4_demandPressure 0 = .ok (.iload_n 0, 1) := by decide +kernel
theorem dX4_demandPressure_1 : decode cX4_demandPressure 1 = .ok (.sipush 700, 3) := by decide +kernel
theorem dX4_demandPressure_4 : decode cX4_demandPressure 4 = .ok (.sipush 800, 3) := by decide +kernel
theorem dX4_demandPressure_7 : decode cX4_demandPressure 7 = .ok (.invokestatic 25, 3) := by decide +kernel
theorem dX4_demandPressure_10 : decode cX4_demandPressure 10 = .ok (.return_, 1) := by decide +kernel
theorem dX4_demandEither_0 : decode cX4_demandEither 0 = .ok (.iload_n 0, 1) := by decide +kernel
theorem dX4_demandEither_1 : decode cX4_demandEither 1 = .ok (.iload_n 1, 1) := by decide +kernel
theorem dX4_demandEither_2 : decode cX4_demandEither 2 = .ok (.if_icmp .eq 19, 3) := by decide +kernel
theorem dX4_demandEither_5 : decode cX4_demandEither 5 = .ok (.iload_n 0, 1) := by decide +kernel
theorem dX4_demandEither_6 : decode cX4_demandEither 6 = .ok (.iload_n 2, 1) := by decide +kernel
theorem dX4_demandEither_7 : decode cX4_demandEither 7 = .ok (.if_icmp .eq 14, 3) := by decide +kernel
theorem dX4_demandEither_10 : decode cX4_demandEither 10 = .ok (.new 77, 3) := by decide +kernel
theorem dX4_demandEither_13 : decode cX4_demandEither 13 = .ok (.dup, 1) := by decide +kernel
theorem dX4_demandEither_14 : decode cX4_demandEither 14 = .ok (.ldc_w 304, 3) := by decide +kernel
theorem dX4_demandEither_17 : decode cX4_demandEither 17 = .ok (.invokespecial 81, 3) := by decide +kernel
theorem dX4_demandEither_20 : decode cX4_demandEither 20 = .ok (.athrow, 1) := by decide +kernel
theorem dX4_demandEither_21 : decode cX4_demandEither 21 = .ok (.return_, 1) := by decide +kernel
theorem dX4_demandUnused_0 : decode cX4_demandUnused 0 = .ok (.aload_n 0, 1) := by decide +kernel
theorem dX4_demandUnused_1 : decode cX4_demandUnused 1 = .ok (.getfield 99, 3) := by decide +kernel
theorem dX4_demandUnused_4 : decode cX4_demandUnused 4 = .ok (.ifCond .eq 14, 3) := by decide +kernel
theorem dX4_demandUnused_7 : decode cX4_demandUnused 7 = .ok (.new 122, 3) := by decide +kernel
theorem dX4_demandUnused_10 : decode cX4_demandUnused 10 = .ok (.dup, 1) := by decide +kernel
theorem dX4_demandUnused_11 : decode cX4_demandUnused 11 = .ok (.ldc_w 306, 3) := by decide +kernel
theorem dX4_demandUnused_14 : decode cX4_demandUnused 14 = .ok (.invokespecial 126, 3) := by decide +kernel
theorem dX4_demandUnused_17 : decode cX4_demandUnused 17 = .ok (.athrow, 1) := by decide +kernel
theorem dX4_demandUnused_18 : decode cX4_demandUnused 18 = .ok (.return_, 1) := by decide +kernel
theorem dX4_demandFilled_0 : decode cX4_demandFilled 0 = .ok (.aload_n 0, 1) := by decide +kernel
theorem dX4_demandFilled_1 : decode cX4_demandFilled 1 = .ok (.getfield 116, 3) := by decide +kernel
theorem dX4_demandFilled_4 : decode cX4_demandFilled 4 = .ok (.ifCond .ne 14, 3) := by decide +kernel
theorem dX4_demandFilled_7 : decode cX4_demandFilled 7 = .ok (.new 122, 3) := by decide +kernel
theorem dX4_demandFilled_10 : decode cX4_demandFilled 10 = .ok (.dup, 1) := by decide +kernel
theorem dX4_demandFilled_11 : decode cX4_demandFilled 11 = .ok (.ldc_w 308, 3) := by decide +kernel
theorem dX4_demandFilled_14 : decode cX4_demandFilled 14 = .ok (.invokespecial 126, 3) := by decide +kernel
theorem dX4_demandFilled_17 : decode cX4_demandFilled 17 = .ok (.athrow, 1) := by decide +kernel
theorem dX4_demandFilled_18 : decode cX4_demandFilled 18 = .ok (.return_, 1) := by decide +kernel
theorem dX4_demandDivided_0 : decode cX4_demandDivided 0 = .ok (.aload_n 0, 1) := by decide +kernel
theorem dX4_demandDivided_1 : decode cX4_demandDivided 1 = .ok (.getfield 173, 3) := by decide +kernel
theorem dX4_demandDivided_4 : decode cX4_demandDivided 4 = .ok (.getfield 197, 3) := by decide +kernel
theorem dX4_demandDivided_7 : decode cX4_demandDivided 7 = .ok (.bipush 32, 2) := by decide +kernel
theorem dX4_demandDivided_9 : decode cX4_demandDivided 9 = .ok (.if_icmp .ne 14, 3) := by decide +kernel
theorem dX4_demandDivided_12 : decode cX4_demandDivided 12 = .ok (.new 122, 3) := by decide +kernel
theorem dX4_demandDivided_15 : decode cX4_demandDivided 15 = .ok (.dup, 1) := by decide +kernel
theorem dX4_demandDivided_16 : decode cX4_demandDivided 16 = .ok (.ldc_w 310, 3) := by decide +kernel
theorem dX4_demandDivided_19 : decode cX4_demandDivided 19 = .ok (.invokespecial 126, 3) := by decide +kernel
theorem dX4_demandDivided_22 : decode cX4_demandDivided 22 = .ok (.athrow, 1) := by decide +kernel
theorem dX4_demandDivided_23 : decode cX4_demandDivided 23 = .ok (.return_, 1) := by decide +kernel
theorem dX4_demandReadings_0 : decode cX4_demandReadings 0 = .ok (.aload_n 0, 1) := by decide +kernel
theorem dX4_demandReadings_1 : decode cX4_demandReadings 1 = .ok (.getfield 227, 3) := by decide +kernel
theorem dX4_demandReadings_4 : decode cX4_demandReadings 4 = .ok (.ifCond .gt 14, 3) := by decide +kernel
theorem dX4_demandReadings_7 : decode cX4_demandReadings 7 = .ok (.new 68, 3) := by decide +kernel
theorem dX4_demandReadings_10 : decode cX4_demandReadings 10 = .ok (.dup, 1) := by decide +kernel
theorem dX4_demandReadings_11 : decode cX4_demandReadings 11 = .ok (.ldc_w 312, 3) := by decide +kernel
theorem dX4_demandReadings_14 : decode cX4_demandReadings 14 = .ok (.invokespecial 72, 3) := by decide +kernel
theorem dX4_demandReadings_17 : decode cX4_demandReadings 17 = .ok (.athrow, 1) := by decide +kernel
theorem dX4_demandReadings_18 : decode cX4_demandReadings 18 = .ok (.return_, 1) := by decide +kernel
theorem dX4_demandEnoughForClass_0 : decode cX4_demandEnoughForClass 0 = .ok (.aload_n 0, 1) := by decide +kernel
theorem dX4_demandEnoughForClass_1 : decode cX4_demandEnoughForClass 1 = .ok (.getfield 227, 3) := by decide +kernel
theorem dX4_demandEnoughForClass_4 : decode cX4_demandEnoughForClass 4 = .ok (.iconst 3, 1) := by decide +kernel
theorem dX4_demandEnoughForClass_5 : decode cX4_demandEnoughForClass 5 = .ok (.if_icmp .ge 14, 3) := by decide +kernel
theorem dX4_demandEnoughForClass_8 : decode cX4_demandEnoughForClass 8 = .ok (.new 122, 3) := by decide +kernel
theorem dX4_demandEnoughForClass_11 : decode cX4_demandEnoughForClass 11 = .ok (.dup, 1) := by decide +kernel
theorem dX4_demandEnoughForClass_12 : decode cX4_demandEnoughForClass 12 = .ok (.ldc_w 314, 3) := by decide +kernel
theorem dX4_demandEnoughForClass_15 : decode cX4_demandEnoughForClass 15 = .ok (.invokespecial 126, 3) := by decide +kernel
theorem dX4_demandEnoughForClass_18 : decode cX4_demandEnoughForClass 18 = .ok (.athrow, 1) := by decide +kernel
theorem dX4_demandEnoughForClass_19 : decode cX4_demandEnoughForClass 19 = .ok (.return_, 1) := by decide +kernel
theorem dX4_steamAt_0 : decode cX4_steamAt 0 = .ok (.sipush 1000, 3) := by decide +kernel
theorem dX4_steamAt_3 : decode cX4_steamAt 3 = .ok (.bipush 37, 2) := by decide +kernel
theorem dX4_steamAt_5 : decode cX4_steamAt 5 = .ok (.iload_n 0, 1) := by decide +kernel
theorem dX4_steamAt_6 : decode cX4_steamAt 6 = .ok (.sipush 760, 3) := by decide +kernel
theorem dX4_steamAt_9 : decode cX4_steamAt 9 = .ok (.isub, 1) := by decide +kernel
theorem dX4_steamAt_10 : decode cX4_steamAt 10 = .ok (.imul, 1) := by decide +kernel
theorem dX4_steamAt_11 : decode cX4_steamAt 11 = .ok (.bipush 100, 2) := by decide +kernel
theorem dX4_steamAt_13 : decode cX4_steamAt 13 = .ok (.idiv, 1) := by decide +kernel
theorem dX4_steamAt_14 : decode cX4_steamAt 14 = .ok (.iadd, 1) := by decide +kernel
theorem dX4_steamAt_15 : decode cX4_steamAt 15 = .ok (.ireturn, 1) := by decide +kernel
theorem dX4_clingingToStep_0 : decode cX4_clingingToStep 0 = .ok (.iload_n 0, 1) := by decide +kernel
theorem dX4_clingingToStep_1 : decode cX4_clingingToStep 1 = .ok (.bipush 60, 2) := by decide +kernel
theorem dX4_clingingToStep_3 : decode cX4_clingingToStep 3 = .ok (.if_icmp .ge 16, 3) := by decide +kernel
theorem dX4_clingingToStep_6 : decode cX4_clingingToStep 6 = .ok (.bipush 60, 2) := by decide +kernel
theorem dX4_clingingToStep_8 : decode cX4_clingingToStep 8 = .ok (.iload_n 0, 1) := by decide +kernel
theorem dX4_clingingToStep_9 : decode cX4_clingingToStep 9 = .ok (.isub, 1) := by decide +kernel
theorem dX4_clingingToStep_10 : decode cX4_clingingToStep 10 = .ok (.bipush 9, 2) := by decide +kernel
theorem dX4_clingingToStep_12 : decode cX4_clingingToStep 12 = .ok (.iadd, 1) := by decide +kernel
theorem dX4_clingingToStep_13 : decode cX4_clingingToStep 13 = .ok (.bipush 10, 2) := by decide +kernel
theorem dX4_clingingToStep_15 : decode cX4_clingingToStep 15 = .ok (.idiv, 1) := by decide +kernel
theorem dX4_clingingToStep_16 : decode cX4_clingingToStep 16 = .ok (.goto 4, 3) := by decide +kernel
theorem dX4_clingingToStep_19 : decode cX4_clingingToStep 19 = .ok (.iconst 0, 1) := by decide +kernel
theorem dX4_clingingToStep_20 : decode cX4_clingingToStep 20 = .ok (.ireturn, 1) := by decide +kernel
theorem dX4_classByError_0 : decode cX4_classByError 0 = .ok (.iload_n 0, 1) := by decide +kernel
theorem dX4_classByError_1 : decode cX4_classByError 1 = .ok (.iconst 2, 1) := by decide +kernel
theorem dX4_classByError_2 : decode cX4_classByError 2 = .ok (.if_icmp .gt 6, 3) := by decide +kernel
theorem dX4_classByError_5 : decode cX4_classByError 5 = .ok (.bipush 65, 2) := by decide +kernel
theorem dX4_classByError_7 : decode cX4_classByError 7 = .ok (.ireturn, 1) := by decide +kernel
theorem dX4_classByError_8 : decode cX4_classByError 8 = .ok (.iload_n 0, 1) := by decide +kernel
theorem dX4_classByError_9 : decode cX4_classByError 9 = .ok (.iconst 5, 1) := by decide +kernel
theorem dX4_classByError_10 : decode cX4_classByError 10 = .ok (.if_icmp .gt 6, 3) := by decide +kernel
theorem dX4_classByError_13 : decode cX4_classByError 13 = .ok (.bipush 66, 2) := by decide +kernel
theorem dX4_classByError_15 : decode cX4_classByError 15 = .ok (.ireturn, 1) := by decide +kernel
theorem dX4_classByError_16 : decode cX4_classByError 16 = .ok (.iload_n 0, 1) := by decide +kernel
theorem dX4_classByError_17 : decode cX4_classByError 17 = .ok (.bipush 10, 2) := by decide +kernel
theorem dX4_classByError_19 : decode cX4_classByError 19 = .ok (.if_icmp .gt 8, 3) := by decide +kernel
theorem dX4_classByError_22 : decode cX4_classByError 22 = .ok (.bipush 67, 2) := by decide +kernel
theorem dX4_classByError_24 : decode cX4_classByError 24 = .ok (.goto 5, 3) := by decide +kernel
theorem dX4_classByError_27 : decode cX4_classByError 27 = .ok (.bipush 88, 2) := by decide +kernel
theorem dX4_classByError_29 : decode cX4_classByError 29 = .ok (.ireturn, 1) := by decide +kernel
