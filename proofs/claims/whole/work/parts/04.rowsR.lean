set_option maxRecDepth 20000 in
theorem ggX5_init_Jx4a65c_init_da8c8 : GoodIn wsX5_init wsJx4a65c_init_da8c8 := goodIn_r _ [20, 21, 22, 23, 24, 25, 26, 27, 28, 29, 30, 31, 32, 2, 3, 50, 51, 52] (by decide +kernel) (by decide +kernel)
set_option maxRecDepth 20000 in
theorem gX5_init_Jx4a65c_init_da8c8 : GoodIn wsX5_init (wsJx4a65c_init_da8c8) := ggX5_init_Jx4a65c_init_da8c8
theorem dX5_init_0 : decode cX5_init 0 = .ok (.aload_n 0, 1) := by decide +kernel
theorem dX5_init_1 : decode cX5_init 1 = .ok (.invokespecial 3, 3) := by decide +kernel
theorem dX5_init_4 : decode cX5_init 4 = .ok (.aload_n 0, 1) := by decide +kernel
theorem dX5_init_5 : decode cX5_init 5 = .ok (.bipush 32, 2) := by decide +kernel
theorem dX5_init_7 : decode cX5_init 7 = .ok (.putfield 9, 3) := by decide +kernel
theorem dX5_init_10 : decode cX5_init 10 = .ok (.aload_n 0, 1) := by decide +kernel
theorem dX5_init_11 : decode cX5_init 11 = .ok (.iconst (-1), 1) := by decide +kernel
theorem dX5_init_12 : decode cX5_init 12 = .ok (.putfield 15, 3) := by decide +kernel
theorem dX5_init_15 : decode cX5_init 15 = .ok (.aload_n 0, 1) := by decide +kernel
theorem dX5_init_16 : decode cX5_init 16 = .ok (.iconst (-1), 1) := by decide +kernel
theorem dX5_init_17 : decode cX5_init 17 = .ok (.putfield 19, 3) := by decide +kernel
theorem dX5_init_20 : decode cX5_init 20 = .ok (.aload_n 0, 1) := by decide +kernel
theorem dX5_init_21 : decode cX5_init 21 = .ok (.bipush 32, 2) := by decide +kernel
theorem dX5_init_23 : decode cX5_init 23 = .ok (.putfield 22, 3) := by decide +kernel
theorem dX5_init_26 : decode cX5_init 26 = .ok (.aload_n 0, 1) := by decide +kernel
theorem dX5_init_27 : decode cX5_init 27 = .ok (.iconst (-1), 1) := by decide +kernel
theorem dX5_init_28 : decode cX5_init 28 = .ok (.putfield 25, 3) := by decide +kernel
theorem dX5_init_31 : decode cX5_init 31 = .ok (.aload_n 0, 1) := by decide +kernel
theorem dX5_init_32 : decode cX5_init 32 = .ok (.iconst (-1), 1) := by decide +kernel
theorem dX5_init_33 : decode cX5_init 33 = .ok (.putfield 28, 3) := by decide +kernel
theorem dX5_init_36 : decode cX5_init 36 = .ok (.aload_n 0, 1) := by decide +kernel
theorem dX5_init_37 : decode cX5_init 37 = .ok (.new 31, 3) := by decide +kernel
theorem dX5_init_40 : decode cX5_init 40 = .ok (.dup, 1) := by decide +kernel
theorem dX5_init_41 : decode cX5_init 41 = .ok (.invokespecial 33, 3) := by decide +kernel
theorem dX5_init_44 : decode cX5_init 44 = .ok (.putfield 34, 3) := by decide +kernel
theorem dX5_init_47 : decode cX5_init 47 = .ok (.aload_n 0, 1) := by decide +kernel
theorem dX5_init_48 : decode cX5_init 48 = .ok (.new 31, 3) := by decide +kernel
theorem dX5_init_51 : decode cX5_init 51 = .ok (.dup, 1) := by decide +kernel
theorem dX5_init_52 : decode cX5_init 52 = .ok (.invokespecial 33, 3) := by decide +kernel
theorem dX5_init_55 : decode cX5_init 55 = .ok (.putfield 38, 3) := by decide +kernel
theorem dX5_init_58 : decode cX5_init 58 = .ok (.aload_n 0, 1) := by decide +kernel
theorem dX5_init_59 : decode cX5_init 59 = .ok (.aload_n 1, 1) := by decide +kernel
theorem dX5_init_60 : decode cX5_init 60 = .ok (.putfield 41, 3) := by decide +kernel
theorem dX5_init_63 : decode cX5_init 63 = .ok (.aload_n 0, 1) := by decide +kernel
theorem dX5_init_64 : decode cX5_init 64 = .ok (.iload_n 2, 1) := by decide +kernel
theorem dX5_init_65 : decode cX5_init 65 = .ok (.putfield 45, 3) := by decide +kernel
theorem dX5_init_68 : decode cX5_init 68 = .ok (.aload_n 0, 1) := by decide +kernel
theorem dX5_init_69 : decode cX5_init 69 = .ok (.iload_n 3, 1) := by decide +kernel
theorem dX5_init_70 : decode cX5_init 70 = .ok (.putfield 48, 3) := by decide +kernel
theorem dX5_init_73 : decode cX5_init 73 = .ok (.return_, 1) := by decide +kernel
theorem dX5_isFilled_0 : decode cX5_isFilled 0 = .ok (.aload_n 0, 1) := by decide +kernel
theorem dX5_isFilled_1 : decode cX5_isFilled 1 = .ok (.getfield 9, 3) := by decide +kernel
theorem dX5_isFilled_4 : decode cX5_isFilled 4 = .ok (.bipush 32, 2) := by decide +kernel
theorem dX5_isFilled_6 : decode cX5_isFilled 6 = .ok (.if_icmp .eq 14, 3) := by decide +kernel
theorem dX5_isFilled_9 : decode cX5_isFilled 9 = .ok (.aload_n 0, 1) := by decide +kernel
theorem dX5_isFilled_10 : decode cX5_isFilled 10 = .ok (.getfield 52, 3) := by decide +kernel
theorem dX5_isFilled_13 : decode cX5_isFilled 13 = .ok (.ifCond .ne 7, 3) := by decide +kernel
theorem dX5_isFilled_16 : decode cX5_isFilled 16 = .ok (.iconst 1, 1) := by decide +kernel
theorem dX5_isFilled_17 : decode cX5_isFilled 17 = .ok (.goto 4, 3) := by decide +kernel
theorem dX5_isFilled_20 : decode cX5_isFilled 20 = .ok (.iconst 0, 1) := by decide +kernel
theorem dX5_isFilled_21 : decode cX5_isFilled 21 = .ok (.ireturn, 1) := by decide +kernel
theorem dX5_creeps_0 : decode cX5_creeps 0 = .ok (.aload_n 0, 1) := by decide +kernel
theorem dX5_creeps_1 : decode cX5_creeps 1 = .ok (.getfield 45, 3) := by decide +kernel
theorem dX5_creeps_4 : decode cX5_creeps 4 = .ok (.aload_n 0, 1) := by decide +kernel
theorem dX5_creeps_5 : decode cX5_creeps 5 = .ok (.getfield 48, 3) := by decide +kernel
theorem dX5_creeps_8 : decode cX5_creeps 8 = .ok (.ifCond .eq 8, 3) := by decide +kernel
theorem dX5_creeps_11 : decode cX5_creeps 11 = .ok (.bipush 6, 2) := by decide +kernel
theorem dX5_creeps_13 : decode cX5_creeps 13 = .ok (.goto 4, 3) := by decide +kernel
theorem dX5_creeps_16 : decode cX5_creeps 16 = .ok (.iconst 2, 1) := by decide +kernel
theorem dX5_creeps_17 : decode cX5_creeps 17 = .ok (.imul, 1) := by decide +kernel
theorem dX5_creeps_18 : decode cX5_creeps 18 = .ok (.sipush 1000, 3) := by decide +kernel
theorem dX5_creeps_21 : decode cX5_creeps 21 = .ok (.idiv, 1) := by decide +kernel
theorem dX5_creeps_22 : decode cX5_creeps 22 = .ok (.istore_n 1, 1) := by decide +kernel
theorem dX5_creeps_23 : decode cX5_creeps 23 = .ok (.aload_n 0, 1) := by decide +kernel
theorem dX5_creeps_24 : decode cX5_creeps 24 = .ok (.dup, 1) := by decide +kernel
theorem dX5_creeps_25 : decode cX5_creeps 25 = .ok (.getfield 55, 3) := by decide +kernel
theorem dX5_creeps_28 : decode cX5_creeps 28 = .ok (.iload_n 1, 1) := by decide +kernel
theorem dX5_creeps_29 : decode cX5_creeps 29 = .ok (.aload_n 0, 1) := by decide +kernel
theorem dX5_creeps_30 : decode cX5_creeps 30 = .ok (.getfield 55, 3) := by decide +kernel
theorem dX5_creeps_33 : decode cX5_creeps 33 = .ok (.isub, 1) := by decide +kernel
theorem dX5_creeps_34 : decode cX5_creeps 34 = .ok (.bipush 19, 2) := by decide +kernel
theorem dX5_creeps_36 : decode cX5_creeps 36 = .ok (.iadd, 1) := by decide +kernel
theorem dX5_creeps_37 : decode cX5_creeps 37 = .ok (.bipush 20, 2) := by decide +kernel
theorem dX5_creeps_39 : decode cX5_creeps 39 = .ok (.idiv, 1) := by decide +kernel
theorem dX5_creeps_40 : decode cX5_creeps 40 = .ok (.iadd, 1) := by decide +kernel
theorem dX5_creeps_41 : decode cX5_creeps 41 = .ok (.putfield 55, 3) := by decide +kernel
theorem dX5_creeps_44 : decode cX5_creeps 44 = .ok (.return_, 1) := by decide +kernel
theorem dX5_grows_0 : decode cX5_grows 0 = .ok (.aload_n 0, 1) := by decide +kernel
theorem dX5_grows_1 : decode cX5_grows 1 = .ok (.getfield 9, 3) := by decide +kernel
theorem dX5_grows_4 : decode cX5_grows 4 = .ok (.bipush 109, 2) := by decide +kernel
theorem dX5_grows_6 : decode cX5_grows 6 = .ok (.if_icmp .ne 8, 3) := by decide +kernel
theorem dX5_grows_9 : decode cX5_grows 9 = .ok (.bipush 18, 2) := by decide +kernel
theorem dX5_grows_11 : decode cX5_grows 11 = .ok (.goto 5, 3) := by decide +kernel
theorem dX5_grows_14 : decode cX5_grows 14 = .ok (.bipush 110, 2) := by decide +kernel
theorem dX5_grows_16 : decode cX5_grows 16 = .ok (.ireturn, 1) := by decide +kernel
theorem dX5_levelBy_0 : decode cX5_levelBy 0 = .ok (.iconst (-1), 1) := by decide +kernel
theorem dX5_levelBy_1 : decode cX5_levelBy 1 = .ok (.istore_n 3, 1) := by decide +kernel
theorem dX5_levelBy_2 : decode cX5_levelBy 2 = .ok (.lconst 0, 1) := by decide +kernel
theorem dX5_levelBy_3 : decode cX5_levelBy 3 = .ok (.lstore 4, 2) := by decide +kernel
theorem dX5_levelBy_5 : decode cX5_levelBy 5 = .ok (.iconst 0, 1) := by decide +kernel
theorem dX5_levelBy_6 : decode cX5_levelBy 6 = .ok (.istore 6, 2) := by decide +kernel
theorem dX5_levelBy_8 : decode cX5_levelBy 8 = .ok (.iload 6, 2) := by decide +kernel
theorem dX5_levelBy_10 : decode cX5_levelBy 10 = .ok (.sipush 200, 3) := by decide +kernel
theorem dX5_levelBy_13 : decode cX5_levelBy 13 = .ok (.if_icmp .gt 54, 3) := by decide +kernel
theorem dX5_levelBy_16 : decode cX5_levelBy 16 = .ok (.lload 4, 2) := by decide +kernel
theorem dX5_levelBy_18 : decode cX5_levelBy 18 = .ok (.lload_n 1, 1) := by decide +kernel
theorem dX5_levelBy_19 : decode cX5_levelBy 19 = .ok (.lcmp, 1) := by decide +kernel
theorem dX5_levelBy_20 : decode cX5_levelBy 20 = .ok (.ifCond .gt 8, 3) := by decide +kernel
theorem dX5_levelBy_23 : decode cX5_levelBy 23 = .ok (.iload 6, 2) := by decide +kernel
theorem dX5_levelBy_25 : decode cX5_levelBy 25 = .ok (.goto 4, 3) := by decide +kernel
theorem dX5_levelBy_28 : decode cX5_levelBy 28 = .ok (.iload_n 3, 1) := by decide +kernel
theorem dX5_levelBy_29 : decode cX5_levelBy 29 = .ok (.istore_n 3, 1) := by decide +kernel
theorem dX5_levelBy_30 : decode cX5_levelBy 30 = .ok (.lload 4, 2) := by decide +kernel
theorem dX5_levelBy_32 : decode cX5_levelBy 32 = .ok (.iload 6, 2) := by decide +kernel
theorem dX5_levelBy_34 : decode cX5_levelBy 34 = .ok (.sipush 200, 3) := by decide +kernel
theorem dX5_levelBy_37 : decode cX5_levelBy 37 = .ok (.if_icmp .ge 20, 3) := by decide +kernel
theorem dX5_levelBy_40 : decode cX5_levelBy 40 = .ok (.aload_n 0, 1) := by decide +kernel
theorem dX5_levelBy_41 : decode cX5_levelBy 41 = .ok (.getfield 41, 3) := by decide +kernel
theorem dX5_levelBy_44 : decode cX5_levelBy 44 = .ok (.getfield 58, 3) := by decide +kernel
theorem dX5_levelBy_47 : decode cX5_levelBy 47 = .ok (.iload 6, 2) := by decide +kernel
theorem dX5_levelBy_49 : decode cX5_levelBy 49 = .ok (.bipush 10, 2) := by decide +kernel
theorem dX5_levelBy_51 : decode cX5_levelBy 51 = .ok (.idiv, 1) := by decide +kernel
theorem dX5_levelBy_52 : decode cX5_levelBy 52 = .ok (.iaload, 1) := by decide +kernel
theorem dX5_levelBy_53 : decode cX5_levelBy 53 = .ok (.i2l, 1) := by decide +kernel
theorem dX5_levelBy_54 : decode cX5_levelBy 54 = .ok (.goto 4, 3) := by decide +kernel
theorem dX5_levelBy_57 : decode cX5_levelBy 57 = .ok (.lconst 0, 1) := by decide +kernel
theorem dX5_levelBy_58 : decode cX5_levelBy 58 = .ok (.ladd, 1) := by decide +kernel
theorem dX5_levelBy_59 : decode cX5_levelBy 59 = .ok (.lstore 4, 2) := by decide +kernel
theorem dX5_levelBy_61 : decode cX5_levelBy 61 = .ok (.iinc 6 1, 3) := by decide +kernel
theorem dX5_levelBy_64 : decode cX5_levelBy 64 = .ok (.goto (-56), 3) := by decide +kernel
theorem dX5_levelBy_67 : decode cX5_levelBy 67 = .ok (.lload_n 1, 1) := by decide +kernel
theorem dX5_levelBy_68 : decode cX5_levelBy 68 = .ok (.lload 4, 2) := by decide +kernel
theorem dX5_levelBy_70 : decode cX5_levelBy 70 = .ok (.lcmp, 1) := by decide +kernel
theorem dX5_levelBy_71 : decode cX5_levelBy 71 = .ok (.ifCond .le 7, 3) := by decide +kernel
theorem dX5_levelBy_74 : decode cX5_levelBy 74 = .ok (.iconst (-1), 1) := by decide +kernel
theorem dX5_levelBy_75 : decode cX5_levelBy 75 = .ok (.goto 4, 3) := by decide +kernel
theorem dX5_levelBy_78 : decode cX5_levelBy 78 = .ok (.iload_n 3, 1) := by decide +kernel
theorem dX5_levelBy_79 : decode cX5_levelBy 79 = .ok (.ireturn, 1) := by decide +kernel
set_option maxRecDepth 20000 in
theorem ggX5_level_X5_grows : GoodIn wsX5_level wsX5_grows := goodIn_r _ [11, 12, 23, 24, 25, 26, 27, 28, 29, 30, 31, 32, 33, 34, 35, 36, 37, 38, 39] (by decide +kernel) (by decide +kernel)
set_option maxRecDepth 20000 in
theorem gX5_level_X5_grows : GoodIn wsX5_level (wsV RX5 67 RX5 yX5_grows wsX5_grows) := goodIn_app (goodIn_of _ (by decide +kernel)) ggX5_level_X5_grows
set_option maxRecDepth 20000 in
theorem ggX5_level_X5_levelBy : GoodIn wsX5_level wsX5_levelBy := goodIn_r _ [16, 6, 23, 24, 25, 26, 27, 28, 29, 30, 31, 32, 33, 34, 35, 36, 37, 38, 39, 40, 41] (by decide +kernel) (by decide +kernel)
set_option maxRecDepth 20000 in
theorem gX5_level_X5_levelBy : GoodIn wsX5_level (wsV RX5 73 RX5 yX5_levelBy wsX5_levelBy) := goodIn_app (goodIn_of _ (by decide +kernel)) ggX5_level_X5_levelBy
set_option maxRecDepth 20000 in
theorem ggX5_level_X6_volume : GoodIn wsX5_level wsX6_volume := goodIn_r _ [21, 22, 40, 41] (by decide +kernel) (by decide +kernel)
set_option maxRecDepth 20000 in
theorem gX5_level_X6_volume : GoodIn wsX5_level (wsV RX5 77 RX6 yX6_volume wsX6_volume) := goodIn_app (goodIn_of _ (by decide +kernel)) ggX5_level_X6_volume
theorem dX5_level_0 : decode cX5_level 0 = .ok (.aload_n 0, 1) := by decide +kernel
theorem dX5_level_1 : decode cX5_level 1 = .ok (.getfield 64, 3) := by decide +kernel
theorem dX5_level_4 : decode cX5_level 4 = .ok (.i2l, 1) := by decide +kernel
theorem dX5_level_5 : decode cX5_level 5 = .ok (.aload_n 0, 1) := by decide +kernel
theorem dX5_level_6 : decode cX5_level 6 = .ok (.getfield 64, 3) := by decide +kernel
theorem dX5_level_9 : decode cX5_level 9 = .ok (.i2l, 1) := by decide +kernel
theorem dX5_level_10 : decode cX5_level 10 = .ok (.aload_n 0, 1) := by decide +kernel
theorem dX5_level_11 : decode cX5_level 11 = .ok (.invokevirtual 67, 3) := by decide +kernel
theorem dX5_level_14 : decode cX5_level 14 = .ok (.i2l, 1) := by decide +kernel
theorem dX5_level_15 : decode cX5_level 15 = .ok (.lmul, 1) := by decide +kernel
theorem dX5_level_16 : decode cX5_level 16 = .ok (.iload_n 1, 1) := by decide +kernel
theorem dX5_level_17 : decode cX5_level 17 = .ok (.i2l, 1) := by decide +kernel
theorem dX5_level_18 : decode cX5_level 18 = .ok (.lmul, 1) := by decide +kernel
theorem dX5_level_19 : decode cX5_level 19 = .ok (.ldc2_w 71, 3) := by decide +kernel
theorem dX5_level_22 : decode cX5_level 22 = .ok (.ldiv, 1) := by decide +kernel
theorem dX5_level_23 : decode cX5_level 23 = .ok (.ladd, 1) := by decide +kernel
theorem dX5_level_24 : decode cX5_level 24 = .ok (.aload_n 0, 1) := by decide +kernel
theorem dX5_level_25 : decode cX5_level 25 = .ok (.getfield 45, 3) := by decide +kernel
theorem dX5_level_28 : decode cX5_level 28 = .ok (.i2l, 1) := by decide +kernel
theorem dX5_level_29 : decode cX5_level 29 = .ok (.lsub, 1) := by decide +kernel
theorem dX5_level_30 : decode cX5_level 30 = .ok (.aload_n 0, 1) := by decide +kernel
theorem dX5_level_31 : decode cX5_level 31 = .ok (.getfield 45, 3) := by decide +kernel
theorem dX5_level_34 : decode cX5_level 34 = .ok (.i2l, 1) := by decide +kernel
theorem dX5_level_35 : decode cX5_level 35 = .ok (.aload_n 0, 1) := by decide +kernel
theorem dX5_level_36 : decode cX5_level 36 = .ok (.getfield 48, 3) := by decide +kernel
theorem dX5_level_39 : decode cX5_level 39 = .ok (.ifCond .eq 7, 3) := by decide +kernel
theorem dX5_level_42 : decode cX5_level 42 = .ok (.iconst 3, 1) := by decide +kernel
theorem dX5_level_43 : decode cX5_level 43 = .ok (.goto 4, 3) := by decide +kernel
theorem dX5_level_46 : decode cX5_level 46 = .ok (.iconst 1, 1) := by decide +kernel
theorem dX5_level_47 : decode cX5_level 47 = .ok (.i2l, 1) := by decide +kernel
theorem dX5_level_48 : decode cX5_level 48 = .ok (.lmul, 1) := by decide +kernel
theorem dX5_level_49 : decode cX5_level 49 = .ok (.iload_n 1, 1) := by decide +kernel
theorem dX5_level_50 : decode cX5_level 50 = .ok (.i2l, 1) := by decide +kernel
theorem dX5_level_51 : decode cX5_level 51 = .ok (.lmul, 1) := by decide +kernel
theorem dX5_level_52 : decode cX5_level 52 = .ok (.ldc2_w 71, 3) := by decide +kernel
theorem dX5_level_55 : decode cX5_level 55 = .ok (.ldiv, 1) := by decide +kernel
theorem dX5_level_56 : decode cX5_level 56 = .ok (.lsub, 1) := by decide +kernel
theorem dX5_level_57 : decode cX5_level 57 = .ok (.aload_n 0, 1) := by decide +kernel
theorem dX5_level_58 : decode cX5_level 58 = .ok (.getfield 55, 3) := by decide +kernel
theorem dX5_level_61 : decode cX5_level 61 = .ok (.i2l, 1) := by decide +kernel
theorem dX5_level_62 : decode cX5_level 62 = .ok (.ladd, 1) := by decide +kernel
theorem dX5_level_63 : decode cX5_level 63 = .ok (.lstore 4, 2) := by decide +kernel
theorem dX5_level_65 : decode cX5_level 65 = .ok (.aload_n 0, 1) := by decide +kernel
theorem dX5_level_66 : decode cX5_level 66 = .ok (.lload 4, 2) := by decide +kernel
theorem dX5_level_68 : decode cX5_level 68 = .ok (.invokevirtual 73, 3) := by decide +kernel
theorem dX5_level_71 : decode cX5_level 71 = .ok (.istore 6, 2) := by decide +kernel
theorem dX5_level_73 : decode cX5_level 73 = .ok (.iload 6, 2) := by decide +kernel
theorem dX5_level_75 : decode cX5_level 75 = .ok (.iload_n 2, 1) := by decide +kernel
theorem dX5_level_76 : decode cX5_level 76 = .ok (.if_icmp .gt 6, 3) := by decide +kernel
theorem dX5_level_79 : decode cX5_level 79 = .ok (.iload 6, 2) := by decide +kernel
theorem dX5_level_81 : decode cX5_level 81 = .ok (.ireturn, 1) := by decide +kernel
theorem dX5_level_82 : decode cX5_level 82 = .ok (.aload_n 0, 1) := by decide +kernel
theorem dX5_level_83 : decode cX5_level 83 = .ok (.getfield 41, 3) := by decide +kernel
theorem dX5_level_86 : decode cX5_level 86 = .ok (.iload 6, 2) := by decide +kernel
theorem dX5_level_88 : decode cX5_level 88 = .ok (.invokevirtual 77, 3) := by decide +kernel
theorem dX5_level_91 : decode cX5_level 91 = .ok (.aload_n 0, 1) := by decide +kernel
theorem dX5_level_92 : decode cX5_level 92 = .ok (.getfield 41, 3) := by decide +kernel
theorem dX5_level_95 : decode cX5_level 95 = .ok (.iload_n 2, 1) := by decide +kernel
theorem dX5_level_96 : decode cX5_level 96 = .ok (.invokevirtual 77, 3) := by decide +kernel
theorem dX5_level_99 : decode cX5_level 99 = .ok (.isub, 1) := by decide +kernel
theorem dX5_level_100 : decode cX5_level 100 = .ok (.i2l, 1) := by decide +kernel
theorem dX5_level_101 : decode cX5_level 101 = .ok (.lstore 7, 2) := by decide +kernel
theorem dX5_level_103 : decode cX5_level 103 = .ok (.aload_n 0, 1) := by decide +kernel
theorem dX5_level_104 : decode cX5_level 104 = .ok (.lload 4, 2) := by decide +kernel
theorem dX5_level_106 : decode cX5_level 106 = .ok (.lload 7, 2) := by decide +kernel
theorem dX5_level_108 : decode cX5_level 108 = .ok (.aload_n 0, 1) := by decide +kernel
theorem dX5_level_109 : decode cX5_level 109 = .ok (.invokevirtual 67, 3) := by decide +kernel
theorem dX5_level_112 : decode cX5_level 112 = .ok (.i2l, 1) := by decide +kernel
theorem dX5_level_113 : decode cX5_level 113 = .ok (.lmul, 1) := by decide +kernel
theorem dX5_level_114 : decode cX5_level 114 = .ok (.iload_n 1, 1) := by decide +kernel
theorem dX5_level_115 : decode cX5_level 115 = .ok (.iload_n 3, 1) := by decide +kernel
theorem dX5_level_116 : decode cX5_level 116 = .ok (.isub, 1) := by decide +kernel
theorem dX5_level_117 : decode cX5_level 117 = .ok (.i2l, 1) := by decide +kernel
theorem dX5_level_118 : decode cX5_level 118 = .ok (.lmul, 1) := by decide +kernel
theorem dX5_level_119 : decode cX5_level 119 = .ok (.ldc2_w 71, 3) := by decide +kernel
theorem dX5_level_122 : decode cX5_level 122 = .ok (.ldiv, 1) := by decide +kernel
theorem dX5_level_123 : decode cX5_level 123 = .ok (.lsub, 1) := by decide +kernel
theorem dX5_level_124 : decode cX5_level 124 = .ok (.invokevirtual 73, 3) := by decide +kernel
theorem dX5_level_127 : decode cX5_level 127 = .ok (.ireturn, 1) := by decide +kernel
set_option maxRecDepth 20000 in
theorem ggX5_readsAt_X6_volume : GoodIn wsX5_readsAt wsX6_volume := goodIn_r _ [10, 11, 29, 30] (by decide +kernel) (by decide +kernel)
set_option maxRecDepth 20000 in
theorem gX5_readsAt_X6_volume : GoodIn wsX5_readsAt (wsV RX5 77 RX6 yX6_volume wsX6_volume) := goodIn_app (goodIn_of _ (by decide +kernel)) ggX5_readsAt_X6_volume
theorem dX5_readsAt_0 : decode cX5_readsAt 0 = .ok (.aload_n 0, 1) := by decide +kernel
theorem dX5_readsAt_1 : decode cX5_readsAt 1 = .ok (.getfield 22, 3) := by decide +kernel
theorem dX5_readsAt_4 : decode cX5_readsAt 4 = .ok (.bipush 108, 2) := by decide +kernel
theorem dX5_readsAt_6 : decode cX5_readsAt 6 = .ok (.if_icmp .ne 13, 3) := by decide +kernel
theorem dX5_readsAt_9 : decode cX5_readsAt 9 = .ok (.iload_n 1, 1) := by decide +kernel
theorem dX5_readsAt_10 : decode cX5_readsAt 10 = .ok (.aload_n 0, 1) := by decide +kernel
theorem dX5_readsAt_11 : decode cX5_readsAt 11 = .ok (.getfield 15, 3) := by decide +kernel
theorem dX5_readsAt_14 : decode cX5_readsAt 14 = .ok (.isub, 1) := by decide +kernel
theorem dX5_readsAt_15 : decode cX5_readsAt 15 = .ok (.i2l, 1) := by decide +kernel
theorem dX5_readsAt_16 : decode cX5_readsAt 16 = .ok (.goto 24, 3) := by decide +kernel
theorem dX5_readsAt_19 : decode cX5_readsAt 19 = .ok (.aload_n 0, 1) := by decide +kernel
theorem dX5_readsAt_20 : decode cX5_readsAt 20 = .ok (.getfield 41, 3) := by decide +kernel
theorem dX5_readsAt_23 : decode cX5_readsAt 23 = .ok (.iload_n 1, 1) := by decide +kernel
theorem dX5_readsAt_24 : decode cX5_readsAt 24 = .ok (.invokevirtual 77, 3) := by decide +kernel
theorem dX5_readsAt_27 : decode cX5_readsAt 27 = .ok (.aload_n 0, 1) := by decide +kernel
theorem dX5_readsAt_28 : decode cX5_readsAt 28 = .ok (.getfield 41, 3) := by decide +kernel
theorem dX5_readsAt_31 : decode cX5_readsAt 31 = .ok (.aload_n 0, 1) := by decide +kernel
theorem dX5_readsAt_32 : decode cX5_readsAt 32 = .ok (.getfield 15, 3) := by decide +kernel
theorem dX5_readsAt_35 : decode cX5_readsAt 35 = .ok (.invokevirtual 77, 3) := by decide +kernel
theorem dX5_readsAt_38 : decode cX5_readsAt 38 = .ok (.isub, 1) := by decide +kernel
theorem dX5_readsAt_39 : decode cX5_readsAt 39 = .ok (.i2l, 1) := by decide +kernel
theorem dX5_readsAt_40 : decode cX5_readsAt 40 = .ok (.lstore_n 2, 1) := by decide +kernel
theorem dX5_readsAt_41 : decode cX5_readsAt 41 = .ok (.aload_n 0, 1) := by decide +kernel
theorem dX5_readsAt_42 : decode cX5_readsAt 42 = .ok (.getfield 22, 3) := by decide +kernel
theorem dX5_readsAt_45 : decode cX5_readsAt 45 = .ok (.bipush 108, 2) := by decide +kernel
theorem dX5_readsAt_47 : decode cX5_readsAt 47 = .ok (.if_icmp .ne 16, 3) := by decide +kernel
theorem dX5_readsAt_50 : decode cX5_readsAt 50 = .ok (.aload_n 0, 1) := by decide +kernel
theorem dX5_readsAt_51 : decode cX5_readsAt 51 = .ok (.getfield 19, 3) := by decide +kernel
theorem dX5_readsAt_54 : decode cX5_readsAt 54 = .ok (.aload_n 0, 1) := by decide +kernel
theorem dX5_readsAt_55 : decode cX5_readsAt 55 = .ok (.getfield 15, 3) := by decide +kernel
theorem dX5_readsAt_58 : decode cX5_readsAt 58 = .ok (.isub, 1) := by decide +kernel
theorem dX5_readsAt_59 : decode cX5_readsAt 59 = .ok (.i2l, 1) := by decide +kernel
theorem dX5_readsAt_60 : decode cX5_readsAt 60 = .ok (.goto 27, 3) := by decide +kernel
theorem dX5_readsAt_63 : decode cX5_readsAt 63 = .ok (.aload_n 0, 1) := by decide +kernel
theorem dX5_readsAt_64 : decode cX5_readsAt 64 = .ok (.getfield 41, 3) := by decide +kernel
theorem dX5_readsAt_67 : decode cX5_readsAt 67 = .ok (.aload_n 0, 1) := by decide +kernel
theorem dX5_readsAt_68 : decode cX5_readsAt 68 = .ok (.getfield 19, 3) := by decide +kernel
theorem dX5_readsAt_71 : decode cX5_readsAt 71 = .ok (.invokevirtual 77, 3) := by decide +kernel
theorem dX5_readsAt_74 : decode cX5_readsAt 74 = .ok (.aload_n 0, 1) := by decide +kernel
theorem dX5_readsAt_75 : decode cX5_readsAt 75 = .ok (.getfield 41, 3) := by decide +kernel
theorem dX5_readsAt_78 : decode cX5_readsAt 78 = .ok (.aload_n 0, 1) := by decide +kernel
theorem dX5_readsAt_79 : decode cX5_readsAt 79 = .ok (.getfield 15, 3) := by decide +kernel
theorem dX5_readsAt_82 : decode cX5_readsAt 82 = .ok (.invokevirtual 77, 3) := by decide +kernel
theorem dX5_readsAt_85 : decode cX5_readsAt 85 = .ok (.isub, 1) := by decide +kernel
theorem dX5_readsAt_86 : decode cX5_readsAt 86 = .ok (.i2l, 1) := by decide +kernel
theorem dX5_readsAt_87 : decode cX5_readsAt 87 = .ok (.lstore 4, 2) := by decide +kernel
theorem dX5_readsAt_89 : decode cX5_readsAt 89 = .ok (.aload_n 0, 1) := by decide +kernel
theorem dX5_readsAt_90 : decode cX5_readsAt 90 = .ok (.getfield 81, 3) := by decide +kernel
theorem dX5_readsAt_93 : decode cX5_readsAt 93 = .ok (.i2l, 1) := by decide +kernel
theorem dX5_readsAt_94 : decode cX5_readsAt 94 = .ok (.lload_n 2, 1) := by decide +kernel
theorem dX5_readsAt_95 : decode cX5_readsAt 95 = .ok (.lmul, 1) := by decide +kernel
theorem dX5_readsAt_96 : decode cX5_readsAt 96 = .ok (.lload 4, 2) := by decide +kernel
theorem dX5_readsAt_98 : decode cX5_readsAt 98 = .ok (.ldiv, 1) := by decide +kernel
theorem dX5_readsAt_99 : decode cX5_readsAt 99 = .ok (.l2i, 1) := by decide +kernel
theorem dX5_readsAt_100 : decode cX5_readsAt 100 = .ok (.ireturn, 1) := by decide +kernel
set_option maxRecDepth 20000 in
theorem ggX5_errorAt_Jx4a65c_get_915e3 : GoodIn wsX5_errorAt wsJx4a65c_get_915e3 := goodIn_r _ [8, 9, 10, 11, 12, 13, 14, 15, 16, 17, 18, 19, 20, 7, 21, 22, 46, 47, 48] (by decide +kernel) (by decide +kernel)
set_option maxRecDepth 20000 in
theorem gX5_errorAt_Jx4a65c_get_915e3 : GoodIn wsX5_errorAt (wsV RX5 84 RJx4a65c yJx4a65c_get_915e3 wsJx4a65c_get_915e3) := goodIn_app (goodIn_of _ (by decide +kernel)) ggX5_errorAt_Jx4a65c_get_915e3
set_option maxRecDepth 20000 in
theorem ggX5_errorAt_J6_intValue_8abf5 : GoodIn wsX5_errorAt wsJ6_intValue_8abf5 := goodIn_r _ [27, 28, 49] (by decide +kernel) (by decide +kernel)
set_option maxRecDepth 20000 in
theorem gX5_errorAt_J6_intValue_8abf5 : GoodIn wsX5_errorAt (wsV RX5 90 RJ6 yJ6_intValue_8abf5 wsJ6_intValue_8abf5) := goodIn_app (goodIn_of _ (by decide +kernel)) ggX5_errorAt_J6_intValue_8abf5
theorem dX5_errorAt_0 : decode cX5_errorAt 0 = .ok (.aload_n 0, 1) := by decide +kernel
theorem dX5_errorAt_1 : decode cX5_errorAt 1 = .ok (.getfield 34, 3) := by decide +kernel
theorem dX5_errorAt_4 : decode cX5_errorAt 4 = .ok (.iload_n 1, 1) := by decide +kernel
theorem dX5_errorAt_5 : decode cX5_errorAt 5 = .ok (.invokevirtual 84, 3) := by decide +kernel
theorem dX5_errorAt_8 : decode cX5_errorAt 8 = .ok (.checkcast 88, 3) := by decide +kernel
theorem dX5_errorAt_11 : decode cX5_errorAt 11 = .ok (.invokevirtual 90, 3) := by decide +kernel
theorem dX5_errorAt_14 : decode cX5_errorAt 14 = .ok (.aload_n 0, 1) := by decide +kernel
theorem dX5_errorAt_15 : decode cX5_errorAt 15 = .ok (.getfield 38, 3) := by decide +kernel
theorem dX5_errorAt_18 : decode cX5_errorAt 18 = .ok (.iload_n 1, 1) := by decide +kernel
theorem dX5_errorAt_19 : decode cX5_errorAt 19 = .ok (.invokevirtual 84, 3) := by decide +kernel
theorem dX5_errorAt_22 : decode cX5_errorAt 22 = .ok (.checkcast 88, 3) := by decide +kernel
theorem dX5_errorAt_25 : decode cX5_errorAt 25 = .ok (.invokevirtual 90, 3) := by decide +kernel
theorem dX5_errorAt_28 : decode cX5_errorAt 28 = .ok (.isub, 1) := by decide +kernel
theorem dX5_errorAt_29 : decode cX5_errorAt 29 = .ok (.ireturn, 1) := by decide +kernel
set_option maxRecDepth 20000 in
theorem ggX5_worst_Jx4a65c_size_8abf5 : GoodIn wsX5_worst wsJx4a65c_size_8abf5 := goodIn_r _ [13, 14, 62, 63, 64] (by decide +kernel) (by decide +kernel)
set_option maxRecDepth 20000 in
theorem gX5_worst_Jx4a65c_size_8abf5 : GoodIn wsX5_worst (wsV RX5 93 RJx4a65c yJx4a65c_size_8abf5 wsJx4a65c_size_8abf5) := goodIn_app (goodIn_of _ (by decide +kernel)) ggX5_worst_Jx4a65c_size_8abf5
set_option maxRecDepth 20000 in
theorem ggX5_worst_X5_errorAt : GoodIn wsX5_worst wsX5_errorAt := goodIn_r _ [19, 1, 20, 21, 22, 23, 24, 12, 25, 14, 26, 27, 28, 29, 30, 31, 32, 33, 34, 35, 36, 37, 38, 39, 40, 41, 42, 43, 44, 45, 46, 47, 48, 49, 50, 51, 52, 53, 54, 55, 56, 57, 58, 59, 60, 61, 62, 63, 64, 65] (by decide +kernel) (by decide +kernel)
set_option maxRecDepth 20000 in
theorem gX5_worst_X5_errorAt : GoodIn wsX5_worst (wsV RX5 96 RX5 yX5_errorAt wsX5_errorAt) := goodIn_app (goodIn_of _ (by decide +kernel)) ggX5_worst_X5_errorAt
theorem dX5_worst_0 : decode cX5_worst 0 = .ok (.iconst 0, 1) := by decide +kernel
theorem dX5_worst_1 : decode cX5_worst 1 = .ok (.istore_n 1, 1) := by decide +kernel
theorem dX5_worst_2 : decode cX5_worst 2 = .ok (.iconst 0, 1) := by decide +kernel
theorem dX5_worst_3 : decode cX5_worst 3 = .ok (.istore_n 2, 1) := by decide +kernel
theorem dX5_worst_4 : decode cX5_worst 4 = .ok (.iload_n 2, 1) := by decide +kernel
theorem dX5_worst_5 : decode cX5_worst 5 = .ok (.aload_n 0, 1) := by decide +kernel
theorem dX5_worst_6 : decode cX5_worst 6 = .ok (.getfield 34, 3) := by decide +kernel
theorem dX5_worst_9 : decode cX5_worst 9 = .ok (.invokevirtual 93, 3) := by decide +kernel
theorem dX5_worst_12 : decode cX5_worst 12 = .ok (.if_icmp .ge 22, 3) := by decide +kernel
theorem dX5_worst_15 : decode cX5_worst 15 = .ok (.iload_n 1, 1) := by decide +kernel
theorem dX5_worst_16 : decode cX5_worst 16 = .ok (.aload_n 0, 1) := by decide +kernel
theorem dX5_worst_17 : decode cX5_worst 17 = .ok (.iload_n 2, 1) := by decide +kernel
theorem dX5_worst_18 : decode cX5_worst 18 = .ok (.invokevirtual 96, 3) := by decide +kernel
theorem dX5_worst_21 : decode cX5_worst 21 = .ok (.invokestatic 99, 3) := by decide +kernel
theorem dX5_worst_24 : decode cX5_worst 24 = .ok (.invokestatic 104, 3) := by decide +kernel
theorem dX5_worst_27 : decode cX5_worst 27 = .ok (.istore_n 1, 1) := by decide +kernel
theorem dX5_worst_28 : decode cX5_worst 28 = .ok (.iinc 2 1, 3) := by decide +kernel
theorem dX5_worst_31 : decode cX5_worst 31 = .ok (.goto (-27), 3) := by decide +kernel
theorem dX5_worst_34 : decode cX5_worst 34 = .ok (.iload_n 1, 1) := by decide +kernel
theorem dX5_worst_35 : decode cX5_worst 35 = .ok (.ireturn, 1) := by decide +kernel
set_option maxRecDepth 20000 in
theorem ggX5_grade_X5_worst : GoodIn wsX5_grade wsX5_worst := goodIn_r _ [5, 6, 7, 8, 9, 10, 11, 12, 13, 14, 15, 16, 17, 18, 19, 20, 21, 22, 4, 23, 24, 25, 26, 27, 28, 29, 30, 31, 32, 33, 34, 35, 36, 37, 38, 39, 40, 41, 42, 43, 44, 45, 46, 47, 48, 49, 50, 51, 52, 53, 54, 55, 56, 57, 58, 59, 60, 61, 62, 63, 64, 65, 66, 67, 68, 69] (by decide +kernel) (by decide +kernel)
set_option maxRecDepth 20000 in
theorem gX5_grade_X5_worst : GoodIn wsX5_grade (wsV RX5 108 RX5 yX5_worst wsX5_worst) := goodIn_app (goodIn_of _ (by decide +kernel)) ggX5_grade_X5_worst
theorem dX5_grade_0 : decode cX5_grade 0 = .ok (.aload_n 0, 1) := by decide +kernel
theorem dX5_grade_1 : decode cX5_grade 1 = .ok (.invokevirtual 108, 3) := by decide +kernel
theorem dX5_grade_4 : decode cX5_grade 4 = .ok (.istore_n 1, 1) := by decide +kernel
theorem dX5_grade_5 : decode cX5_grade 5 = .ok (.iload_n 1, 1) := by decide +kernel
theorem dX5_grade_6 : decode cX5_grade 6 = .ok (.iconst 2, 1) := by decide +kernel
theorem dX5_grade_7 : decode cX5_grade 7 = .ok (.if_icmp .gt 8, 3) := by decide +kernel
theorem dX5_grade_10 : decode cX5_grade 10 = .ok (.bipush 65, 2) := by decide +kernel
theorem dX5_grade_12 : decode cX5_grade 12 = .ok (.goto 26, 3) := by decide +kernel
theorem dX5_grade_15 : decode cX5_grade 15 = .ok (.iload_n 1, 1) := by decide +kernel
theorem dX5_grade_16 : decode cX5_grade 16 = .ok (.iconst 5, 1) := by decide +kernel
theorem dX5_grade_17 : decode cX5_grade 17 = .ok (.if_icmp .gt 8, 3) := by decide +kernel
theorem dX5_grade_20 : decode cX5_grade 20 = .ok (.bipush 66, 2) := by decide +kernel
theorem dX5_grade_22 : decode cX5_grade 22 = .ok (.goto 16, 3) := by decide +kernel
theorem dX5_grade_25 : decode cX5_grade 25 = .ok (.iload_n 1, 1) := by decide +kernel
theorem dX5_grade_26 : decode cX5_grade 26 = .ok (.bipush 10, 2) := by decide +kernel
theorem dX5_grade_28 : decode cX5_grade 28 = .ok (.if_icmp .gt 8, 3) := by decide +kernel
theorem dX5_grade_31 : decode cX5_grade 31 = .ok (.bipush 67, 2) := by decide +kernel
theorem dX5_grade_33 : decode cX5_grade 33 = .ok (.goto 5, 3) := by decide +kernel
theorem dX5_grade_36 : decode cX5_grade 36 = .ok (.bipush 88, 2) := by decide +kernel
theorem dX5_grade_38 : decode cX5_grade 38 = .ok (.ireturn, 1) := by decide +kernel
theorem dX6_init_0 : decode cX6_init 0 = .ok (.aload_n 0, 1) := by decide +kernel
theorem dX6_init_1 : decode cX6_init 1 = .ok (.invokespecial 3, 3) := by decide +kernel
theorem dX6_init_4 : decode cX6_init 4 = .ok (.aload_n 0, 1) := by decide +kernel
theorem dX6_init_5 : decode cX6_init 5 = .ok (.bipush 20, 2) := by decide +kernel
theorem dX6_init_7 : decode cX6_init 7 = .ok (.newarray .int, 2) := by decide +kernel
theorem dX6_init_9 : decode cX6_init 9 = .ok (.putfield 9, 3) := by decide +kernel
theorem dX6_init_12 : decode cX6_init 12 = .ok (.return_, 1) := by decide +kernel
theorem dX6_volume_0 : decode cX6_volume 0 = .ok (.iconst 0, 1) := by decide +kernel
theorem dX6_volume_1 : decode cX6_volume 1 = .ok (.istore_n 2, 1) := by decide +kernel
theorem dX6_volume_2 : decode cX6_volume 2 = .ok (.iconst 0, 1) := by decide +kernel
theorem dX6_volume_3 : decode cX6_volume 3 = .ok (.istore_n 3, 1) := by decide +kernel
theorem dX6_volume_4 : decode cX6_volume 4 = .ok (.iload_n 3, 1) := by decide +kernel
theorem dX6_volume_5 : decode cX6_volume 5 = .ok (.iload_n 1, 1) := by decide +kernel
theorem dX6_volume_6 : decode cX6_volume 6 = .ok (.if_icmp .ge 21, 3) := by decide +kernel
theorem dX6_volume_9 : decode cX6_volume 9 = .ok (.iload_n 2, 1) := by decide +kernel
theorem dX6_volume_10 : decode cX6_volume 10 = .ok (.aload_n 0, 1) := by decide +kernel
theorem dX6_volume_11 : decode cX6_volume 11 = .ok (.getfield 9, 3) := by decide +kernel
theorem dX6_volume_14 : decode cX6_volume 14 = .ok (.iload_n 3, 1) := by decide +kernel
theorem dX6_volume_15 : decode cX6_volume 15 = .ok (.bipush 10, 2) := by decide +kernel
theorem dX6_volume_17 : decode cX6_volume 17 = .ok (.idiv, 1) := by decide +kernel
theorem dX6_volume_18 : decode cX6_volume 18 = .ok (.iaload, 1) := by decide +kernel
theorem dX6_volume_19 : decode cX6_volume 19 = .ok (.iadd, 1) := by decide +kernel
theorem dX6_volume_20 : decode cX6_volume 20 = .ok (.istore_n 2, 1) := by decide +kernel
theorem dX6_volume_21 : decode cX6_volume 21 = .ok (.iinc 3 1, 3) := by decide +kernel
theorem dX6_volume_24 : decode cX6_volume 24 = .ok (.goto (-20), 3) := by decide +kernel
theorem dX6_volume_27 : decode cX6_volume 27 = .ok (.iload_n 2, 1) := by decide +kernel
theorem dX6_volume_28 : decode cX6_volume 28 = .ok (.ireturn, 1) := by decide +kernel
set_option maxRecDepth 20000 in
theorem ggX7_init_Jx4a65c_init_da8c8 : GoodIn wsX7_init wsJx4a65c_init_da8c8 := goodIn_r _ [12, 13, 14, 15, 16, 17, 18, 19, 20, 21, 22, 23, 24, 2, 3, 25, 26, 27] (by decide +kernel) (by decide +kernel)
set_option maxRecDepth 20000 in
theorem gX7_init_Jx4a65c_init_da8c8 : GoodIn wsX7_init (wsJx4a65c_init_da8c8) := ggX7_init_Jx4a65c_init_da8c8
theorem dX7_init_0 : decode cX7_init 0 = .ok (.aload_n 0, 1) := by decide +kernel
theorem dX7_init_1 : decode cX7_init 1 = .ok (.invokespecial 1, 3) := by decide +kernel
theorem dX7_init_4 : decode cX7_init 4 = .ok (.aload_n 0, 1) := by decide +kernel
theorem dX7_init_5 : decode cX7_init 5 = .ok (.new 7, 3) := by decide +kernel
theorem dX7_init_8 : decode cX7_init 8 = .ok (.dup, 1) := by decide +kernel
theorem dX7_init_9 : decode cX7_init 9 = .ok (.invokespecial 9, 3) := by decide +kernel
theorem dX7_init_12 : decode cX7_init 12 = .ok (.putfield 10, 3) := by decide +kernel
theorem dX7_init_15 : decode cX7_init 15 = .ok (.aload_n 0, 1) := by decide +kernel
theorem dX7_init_16 : decode cX7_init 16 = .ok (.new 7, 3) := by decide +kernel
theorem dX7_init_19 : decode cX7_init 19 = .ok (.dup, 1) := by decide +kernel
theorem dX7_init_20 : decode cX7_init 20 = .ok (.invokespecial 9, 3) := by decide +kernel
theorem dX7_init_23 : decode cX7_init 23 = .ok (.putfield 16, 3) := by decide +kernel
theorem dX7_init_26 : decode cX7_init 26 = .ok (.aload_n 0, 1) := by decide +kernel
theorem dX7_init_27 : decode cX7_init 27 = .ok (.sipush 200, 3) := by decide +kernel
theorem dX7_init_30 : decode cX7_init 30 = .ok (.putfield 19, 3) := by decide +kernel
theorem dX7_init_33 : decode cX7_init 33 = .ok (.return_, 1) := by decide +kernel
theorem dX7_thrown_0 : decode cX7_thrown 0 = .ok (.aload_n 0, 1) := by decide +kernel
theorem dX7_thrown_1 : decode cX7_thrown 1 = .ok (.getfield 23, 3) := by decide +kernel
theorem dX7_thrown_4 : decode cX7_thrown 4 = .ok (.ireturn, 1) := by decide +kernel
theorem dX7_isThrown_0 : decode cX7_isThrown 0 = .ok (.aload_n 0, 1) := by decide +kernel
theorem dX7_isThrown_1 : decode cX7_isThrown 1 = .ok (.iload_n 1, 1) := by decide +kernel
theorem dX7_isThrown_2 : decode cX7_isThrown 2 = .ok (.ifCond .eq 7, 3) := by decide +kernel
theorem dX7_isThrown_5 : decode cX7_isThrown 5 = .ok (.iload_n 2, 1) := by decide +kernel
theorem dX7_isThrown_6 : decode cX7_isThrown 6 = .ok (.goto 4, 3) := by decide +kernel
theorem dX7_isThrown_9 : decode cX7_isThrown 9 = .ok (.iconst 0, 1) := by decide +kernel
theorem dX7_isThrown_10 : decode cX7_isThrown 10 = .ok (.putfield 23, 3) := by decide +kernel
theorem dX7_isThrown_13 : decode cX7_isThrown 13 = .ok (.iload_n 1, 1) := by decide +kernel
theorem dX7_isThrown_14 : decode cX7_isThrown 14 = .ok (.ireturn, 1) := by decide +kernel
theorem dX7_isIn_0 : decode cX7_isIn 0 = .ok (.iload_n 0, 1) := by decide +kernel
theorem dX7_isIn_1 : decode cX7_isIn 1 = .ok (.iload_n 1, 1) := by decide +kernel
theorem dX7_isIn_2 : decode cX7_isIn 2 = .ok (.if_icmp .lt 12, 3) := by decide +kernel
theorem dX7_isIn_5 : decode cX7_isIn 5 = .ok (.iload_n 0, 1) := by decide +kernel
theorem dX7_isIn_6 : decode cX7_isIn 6 = .ok (.iload_n 2, 1) := by decide +kernel
theorem dX7_isIn_7 : decode cX7_isIn 7 = .ok (.if_icmp .gt 7, 3) := by decide +kernel
theorem dX7_isIn_10 : decode cX7_isIn 10 = .ok (.iconst 1, 1) := by decide +kernel
theorem dX7_isIn_11 : decode cX7_isIn 11 = .ok (.goto 4, 3) := by decide +kernel
theorem dX7_isIn_14 : decode cX7_isIn 14 = .ok (.iconst 0, 1) := by decide +kernel
theorem dX7_isIn_15 : decode cX7_isIn 15 = .ok (.ireturn, 1) := by decide +kernel
set_option maxRecDepth 20000 in
theorem ggX7_isNoPlace_X7_isIn : GoodIn wsX7_isNoPlace wsX7_isIn := goodIn_r _ [4] (by decide +kernel) (by decide +kernel)
set_option maxRecDepth 20000 in
theorem gX7_isNoPlace_X7_isIn : GoodIn wsX7_isNoPlace (va_wsS RX7 26 yX7_isIn wsX7_isIn) := goodIn_app (goodIn_of _ (by decide +kernel)) ggX7_isNoPlace_X7_isIn
theorem dX7_isNoPlace_0 : decode cX7_isNoPlace 0 = .ok (.iload_n 0, 1) := by decide +kernel
theorem dX7_isNoPlace_1 : decode cX7_isNoPlace 1 = .ok (.iconst 0, 1) := by decide +kernel
theorem dX7_isNoPlace_2 : decode cX7_isNoPlace 2 = .ok (.sipush 200, 3) := by decide +kernel
theorem dX7_isNoPlace_5 : decode cX7_isNoPlace 5 = .ok (.invokestatic 26, 3) := by decide +kernel
theorem dX7_isNoPlace_8 : decode cX7_isNoPlace 8 = .ok (.ifCond .ne 7, 3) := by decide +kernel
theorem dX7_isNoPlace_11 : decode cX7_isNoPlace 11 = .ok (.iconst 1, 1) := by decide +kernel
theorem dX7_isNoPlace_12 : decode cX7_isNoPlace 12 = .ok (.goto 4, 3) := by decide +kernel
theorem dX7_isNoPlace_15 : decode cX7_isNoPlace 15 = .ok (.iconst 0, 1) := by decide +kernel
theorem dX7_isNoPlace_16 : decode cX7_isNoPlace 16 = .ok (.ireturn, 1) := by decide +kernel
set_option maxRecDepth 20000 in
theorem ggX7_isNoHeat_X7_isIn : GoodIn wsX7_isNoHeat wsX7_isIn := goodIn_r _ [4] (by decide +kernel) (by decide +kernel)
set_option maxRecDepth 20000 in
theorem gX7_isNoHeat_X7_isIn : GoodIn wsX7_isNoHeat (va_wsS RX7 26 yX7_isIn wsX7_isIn) := goodIn_app (goodIn_of _ (by decide +kernel)) ggX7_isNoHeat_X7_isIn
theorem dX7_isNoHeat_0 : decode cX7_isNoHeat 0 = .ok (.iload_n 0, 1) := by decide +kernel
theorem dX7_isNoHeat_1 : decode cX7_isNoHeat 1 = .ok (.sipush (-300), 3) := by decide +kernel
theorem dX7_isNoHeat_4 : decode cX7_isNoHeat 4 = .ok (.sipush 3000, 3) := by decide +kernel
theorem dX7_isNoHeat_7 : decode cX7_isNoHeat 7 = .ok (.invokestatic 26, 3) := by decide +kernel
theorem dX7_isNoHeat_10 : decode cX7_isNoHeat 10 = .ok (.ifCond .ne 7, 3) := by decide +kernel
theorem dX7_isNoHeat_13 : decode cX7_isNoHeat 13 = .ok (.iconst 1, 1) := by decide +kernel
theorem dX7_isNoHeat_14 : decode cX7_isNoHeat 14 = .ok (.goto 4, 3) := by decide +kernel
theorem dX7_isNoHeat_17 : decode cX7_isNoHeat 17 = .ok (.iconst 0, 1) := by decide +kernel
theorem dX7_isNoHeat_18 : decode cX7_isNoHeat 18 = .ok (.ireturn, 1) := by decide +kernel
set_option maxRecDepth 20000 in
theorem ggX7_draw_X7_isIn : GoodIn wsX7_draw wsX7_isIn := goodIn_r _ [15] (by decide +kernel) (by decide +kernel)
set_option maxRecDepth 20000 in
theorem gX7_draw_X7_isIn : GoodIn wsX7_draw (va_wsS RX7 26 yX7_isIn wsX7_isIn) := goodIn_app (goodIn_of _ (by decide +kernel)) ggX7_draw_X7_isIn
set_option maxRecDepth 20000 in
theorem ggX7_draw_X7_isThrown : GoodIn wsX7_draw wsX7_isThrown := goodIn_r _ [19, 20, 83, 84, 85, 86, 87, 88, 89] (by decide +kernel) (by decide +kernel)
set_option maxRecDepth 20000 in
theorem gX7_draw_X7_isThrown : GoodIn wsX7_draw (wsV RX7 30 RX7 yX7_isThrown wsX7_isThrown) := goodIn_app (goodIn_of _ (by decide +kernel)) ggX7_draw_X7_isThrown
set_option maxRecDepth 20000 in
theorem ggX7_draw_Jx4a65c_size_8abf5 : GoodIn wsX7_draw wsJx4a65c_size_8abf5 := goodIn_r _ [25, 26, 92, 93, 94] (by decide +kernel) (by decide +kernel)
set_option maxRecDepth 20000 in
theorem gX7_draw_Jx4a65c_size_8abf5 : GoodIn wsX7_draw (wsV RX7 34 RJx4a65c yJx4a65c_size_8abf5 wsJx4a65c_size_8abf5) := goodIn_app (goodIn_of _ (by decide +kernel)) ggX7_draw_Jx4a65c_size_8abf5
set_option maxRecDepth 20000 in
theorem ggX7_draw_X6_init : GoodIn wsX7_draw wsX6_init := goodIn_r _ [28, 29, 30, 31, 32, 33, 90, 91] (by decide +kernel) (by decide +kernel)
set_option maxRecDepth 20000 in
theorem gX7_draw_X6_init_n40 : GoodIn wsX7_draw (wsX6_init) := ggX7_draw_X6_init
set_option maxRecDepth 20000 in
theorem ggX7_draw_Jx4a65c_add_9ea2d : GoodIn wsX7_draw wsJx4a65c_add_9ea2d := goodIn_r _ [37, 38, 39, 40, 26, 41, 42, 43, 24, 44, 45, 46, 47, 48, 49, 50, 51, 52, 53, 54, 10, 7, 11, 55, 56, 57, 58, 59, 60, 61, 62, 63, 64, 65, 66, 67, 68, 69, 70, 71, 72, 73, 74, 75, 76, 77, 78, 6, 8, 79, 80, 81, 82, 92, 93, 94] (by decide +kernel) (by decide +kernel)
set_option maxRecDepth 20000 in
theorem gX7_draw_Jx4a65c_add_9ea2d : GoodIn wsX7_draw (wsV RX7 54 RJx4a65c yJx4a65c_add_9ea2d wsJx4a65c_add_9ea2d) := goodIn_app (goodIn_of _ (by decide +kernel)) ggX7_draw_Jx4a65c_add_9ea2d
theorem dX7_draw_0 : decode cX7_draw 0 = .ok (.aload_n 0, 1) := by decide +kernel
theorem dX7_draw_1 : decode cX7_draw 1 = .ok (.iload_n 1, 1) := by decide +kernel
theorem dX7_draw_2 : decode cX7_draw 2 = .ok (.iconst 1, 1) := by decide +kernel
theorem dX7_draw_3 : decode cX7_draw 3 = .ok (.bipush 40, 2) := by decide +kernel
theorem dX7_draw_5 : decode cX7_draw 5 = .ok (.invokestatic 26, 3) := by decide +kernel
theorem dX7_draw_8 : decode cX7_draw 8 = .ok (.ifCond .eq 13, 3) := by decide +kernel
theorem dX7_draw_11 : decode cX7_draw 11 = .ok (.iload_n 2, 1) := by decide +kernel
theorem dX7_draw_12 : decode cX7_draw 12 = .ok (.bipush (-2), 2) := by decide +kernel
theorem dX7_draw_14 : decode cX7_draw 14 = .ok (.iconst 2, 1) := by decide +kernel
theorem dX7_draw_15 : decode cX7_draw 15 = .ok (.invokestatic 26, 3) := by decide +kernel
theorem dX7_draw_18 : decode cX7_draw 18 = .ok (.ifCond .ne 7, 3) := by decide +kernel
theorem dX7_draw_21 : decode cX7_draw 21 = .ok (.iconst 1, 1) := by decide +kernel
theorem dX7_draw_22 : decode cX7_draw 22 = .ok (.goto 4, 3) := by decide +kernel
theorem dX7_draw_25 : decode cX7_draw 25 = .ok (.iconst 0, 1) := by decide +kernel
theorem dX7_draw_26 : decode cX7_draw 26 = .ok (.iconst 1, 1) := by decide +kernel
theorem dX7_draw_27 : decode cX7_draw 27 = .ok (.invokevirtual 30, 3) := by decide +kernel
theorem dX7_draw_30 : decode cX7_draw 30 = .ok (.ifCond .ne 28, 3) := by decide +kernel
theorem dX7_draw_33 : decode cX7_draw 33 = .ok (.aload_n 0, 1) := by decide +kernel
theorem dX7_draw_34 : decode cX7_draw 34 = .ok (.aload_n 0, 1) := by decide +kernel
theorem dX7_draw_35 : decode cX7_draw 35 = .ok (.getfield 10, 3) := by decide +kernel
theorem dX7_draw_38 : decode cX7_draw 38 = .ok (.invokevirtual 34, 3) := by decide +kernel
theorem dX7_draw_41 : decode cX7_draw 41 = .ok (.bipush 8, 2) := by decide +kernel
theorem dX7_draw_43 : decode cX7_draw 43 = .ok (.if_icmp .ne 7, 3) := by decide +kernel
theorem dX7_draw_46 : decode cX7_draw 46 = .ok (.iconst 1, 1) := by decide +kernel
theorem dX7_draw_47 : decode cX7_draw 47 = .ok (.goto 4, 3) := by decide +kernel
theorem dX7_draw_50 : decode cX7_draw 50 = .ok (.iconst 0, 1) := by decide +kernel
theorem dX7_draw_51 : decode cX7_draw 51 = .ok (.iconst 2, 1) := by decide +kernel
theorem dX7_draw_52 : decode cX7_draw 52 = .ok (.invokevirtual 30, 3) := by decide +kernel
theorem dX7_draw_55 : decode cX7_draw 55 = .ok (.ifCond .eq 5, 3) := by decide +kernel
theorem dX7_draw_58 : decode cX7_draw 58 = .ok (.iconst 0, 1) := by decide +kernel
theorem dX7_draw_59 : decode cX7_draw 59 = .ok (.ireturn, 1) := by decide +kernel
theorem dX7_draw_60 : decode cX7_draw 60 = .ok (.new 38, 3) := by decide +kernel
theorem dX7_draw_63 : decode cX7_draw 63 = .ok (.dup, 1) := by decide +kernel
theorem dX7_draw_64 : decode cX7_draw 64 = .ok (.invokespecial 40, 3) := by decide +kernel
theorem dX7_draw_67 : decode cX7_draw 67 = .ok (.astore_n 3, 1) := by decide +kernel
theorem dX7_draw_68 : decode cX7_draw 68 = .ok (.iconst 0, 1) := by decide +kernel
theorem dX7_draw_69 : decode cX7_draw 69 = .ok (.istore 4, 2) := by decide +kernel
theorem dX7_draw_71 : decode cX7_draw 71 = .ok (.iload 4, 2) := by decide +kernel
theorem dX7_draw_73 : decode cX7_draw 73 = .ok (.bipush 20, 2) := by decide +kernel
theorem dX7_draw_75 : decode cX7_draw 75 = .ok (.if_icmp .ge 31, 3) := by decide +kernel
theorem dX7_draw_78 : decode cX7_draw 78 = .ok (.aload_n 3, 1) := by decide +kernel
theorem dX7_draw_79 : decode cX7_draw 79 = .ok (.getfield 41, 3) := by decide +kernel
theorem dX7_draw_82 : decode cX7_draw 82 = .ok (.iload 4, 2) := by decide +kernel
theorem dX7_draw_84 : decode cX7_draw 84 = .ok (.iconst 1, 1) := by decide +kernel
theorem dX7_draw_85 : decode cX7_draw 85 = .ok (.bipush 60, 2) := by decide +kernel
theorem dX7_draw_87 : decode cX7_draw 87 = .ok (.iload_n 1, 1) := by decide +kernel
theorem dX7_draw_88 : decode cX7_draw 88 = .ok (.iload 4, 2) := by decide +kernel
theorem dX7_draw_90 : decode cX7_draw 90 = .ok (.iload_n 2, 1) := by decide +kernel
theorem dX7_draw_91 : decode cX7_draw 91 = .ok (.imul, 1) := by decide +kernel
theorem dX7_draw_92 : decode cX7_draw 92 = .ok (.iadd, 1) := by decide +kernel
theorem dX7_draw_93 : decode cX7_draw 93 = .ok (.invokestatic 45, 3) := by decide +kernel
theorem dX7_draw_96 : decode cX7_draw 96 = .ok (.invokestatic 51, 3) := by decide +kernel
theorem dX7_draw_99 : decode cX7_draw 99 = .ok (.iastore, 1) := by decide +kernel
theorem dX7_draw_100 : decode cX7_draw 100 = .ok (.iinc 4 1, 3) := by decide +kernel
theorem dX7_draw_103 : decode cX7_draw 103 = .ok (.goto (-32), 3) := by decide +kernel
theorem dX7_draw_106 : decode cX7_draw 106 = .ok (.aload_n 0, 1) := by decide +kernel
theorem dX7_draw_107 : decode cX7_draw 107 = .ok (.getfield 10, 3) := by decide +kernel
theorem dX7_draw_110 : decode cX7_draw 110 = .ok (.aload_n 3, 1) := by decide +kernel
theorem dX7_draw_111 : decode cX7_draw 111 = .ok (.invokevirtual 54, 3) := by decide +kernel
theorem dX7_draw_114 : decode cX7_draw 114 = .ok (.pop, 1) := by decide +kernel
theorem dX7_draw_115 : decode cX7_draw 115 = .ok (.aload_n 0, 1) := by decide +kernel
theorem dX7_draw_116 : decode cX7_draw 116 = .ok (.getfield 10, 3) := by decide +kernel
theorem dX7_draw_119 : decode cX7_draw 119 = .ok (.invokevirtual 34, 3) := by decide +kernel
theorem dX7_draw_122 : decode cX7_draw 122 = .ok (.iconst 1, 1) := by decide +kernel
theorem dX7_draw_123 : decode cX7_draw 123 = .ok (.isub, 1) := by decide +kernel
theorem dX7_draw_124 : decode cX7_draw 124 = .ok (.ireturn, 1) := by decide +kernel
set_option maxRecDepth 20000 in
theorem ggX7_isNoTube_Jx4a65c_size_8abf5 : GoodIn wsX7_isNoTube wsJx4a65c_size_8abf5 := goodIn_r _ [6, 7, 19, 20, 21] (by decide +kernel) (by decide +kernel)
set_option maxRecDepth 20000 in
theorem gX7_isNoTube_Jx4a65c_size_8abf5 : GoodIn wsX7_isNoTube (wsV RX7 34 RJx4a65c yJx4a65c_size_8abf5 wsJx4a65c_size_8abf5) := goodIn_app (goodIn_of _ (by decide +kernel)) ggX7_isNoTube_Jx4a65c_size_8abf5
set_option maxRecDepth 20000 in
theorem ggX7_isNoTube_X7_isIn : GoodIn wsX7_isNoTube wsX7_isIn := goodIn_r _ [11] (by decide +kernel) (by decide +kernel)
set_option maxRecDepth 20000 in
theorem gX7_isNoTube_X7_isIn : GoodIn wsX7_isNoTube (va_wsS RX7 26 yX7_isIn wsX7_isIn) := goodIn_app (goodIn_of _ (by decide +kernel)) ggX7_isNoTube_X7_isIn
theorem dX7_isNoTube_0 : decode cX7_isNoTube 0 = .ok (.iload_n 1, 1) := by decide +kernel
theorem dX7_isNoTube_1 : decode cX7_isNoTube 1 = .ok (.iconst 0, 1) := by decide +kernel
theorem dX7_isNoTube_2 : decode cX7_isNoTube 2 = .ok (.aload_n 0, 1) := by decide +kernel
theorem dX7_isNoTube_3 : decode cX7_isNoTube 3 = .ok (.getfield 10, 3) := by decide +kernel
theorem dX7_isNoTube_6 : decode cX7_isNoTube 6 = .ok (.invokevirtual 34, 3) := by decide +kernel
theorem dX7_isNoTube_9 : decode cX7_isNoTube 9 = .ok (.iconst 1, 1) := by decide +kernel
theorem dX7_isNoTube_10 : decode cX7_isNoTube 10 = .ok (.isub, 1) := by decide +kernel
theorem dX7_isNoTube_11 : decode cX7_isNoTube 11 = .ok (.invokestatic 26, 3) := by decide +kernel
theorem dX7_isNoTube_14 : decode cX7_isNoTube 14 = .ok (.ifCond .ne 7, 3) := by decide +kernel
theorem dX7_isNoTube_17 : decode cX7_isNoTube 17 = .ok (.iconst 1, 1) := by decide +kernel
theorem dX7_isNoTube_18 : decode cX7_isNoTube 18 = .ok (.goto 4, 3) := by decide +kernel
theorem dX7_isNoTube_21 : decode cX7_isNoTube 21 = .ok (.iconst 0, 1) := by decide +kernel
theorem dX7_isNoTube_22 : decode cX7_isNoTube 22 = .ok (.ireturn, 1) := by decide +kernel
set_option maxRecDepth 20000 in
theorem ggX7_section_X7_isNoTube : GoodIn wsX7_section wsX7_isNoTube := goodIn_r _ [7, 1, 8, 9, 10, 11, 12, 13, 14, 15, 6, 16, 39, 40, 41, 42, 43, 44, 45, 48, 49, 50] (by decide +kernel) (by decide +kernel)
set_option maxRecDepth 20000 in
theorem gX7_section_X7_isNoTube : GoodIn wsX7_section (wsV RX7 58 RX7 yX7_isNoTube wsX7_isNoTube) := goodIn_app (goodIn_of _ (by decide +kernel)) ggX7_section_X7_isNoTube
set_option maxRecDepth 20000 in
theorem ggX7_section_X7_isThrown : GoodIn wsX7_section wsX7_isThrown := goodIn_r _ [20, 21, 39, 40, 41, 42, 43, 44, 45] (by decide +kernel) (by decide +kernel)
set_option maxRecDepth 20000 in
theorem gX7_section_X7_isThrown : GoodIn wsX7_section (wsV RX7 30 RX7 yX7_isThrown wsX7_isThrown) := goodIn_app (goodIn_of _ (by decide +kernel)) ggX7_section_X7_isThrown
set_option maxRecDepth 20000 in
theorem ggX7_section_X7_isIn : GoodIn wsX7_section wsX7_isIn := goodIn_r _ [16] (by decide +kernel) (by decide +kernel)
set_option maxRecDepth 20000 in
theorem gX7_section_X7_isIn : GoodIn wsX7_section (va_wsS RX7 26 yX7_isIn wsX7_isIn) := goodIn_app (goodIn_of _ (by decide +kernel)) ggX7_section_X7_isIn
set_option maxRecDepth 20000 in
theorem ggX7_section_Jx4a65c_get_915e3 : GoodIn wsX7_section wsJx4a65c_get_915e3 := goodIn_r _ [25, 13, 26, 27, 28, 29, 30, 31, 32, 33, 34, 35, 36, 11, 37, 38, 48, 49, 50] (by decide +kernel) (by decide +kernel)
set_option maxRecDepth 20000 in
theorem gX7_section_Jx4a65c_get_915e3 : GoodIn wsX7_section (wsV RX7 62 RJx4a65c yJx4a65c_get_915e3 wsJx4a65c_get_915e3) := goodIn_app (goodIn_of _ (by decide +kernel)) ggX7_section_Jx4a65c_get_915e3
theorem dX7_section_0 : decode cX7_section 0 = .ok (.aload_n 0, 1) := by decide +kernel
theorem dX7_section_1 : decode cX7_section 1 = .ok (.aload_n 0, 1) := by decide +kernel
theorem dX7_section_2 : decode cX7_section 2 = .ok (.iload_n 1, 1) := by decide +kernel
theorem dX7_section_3 : decode cX7_section 3 = .ok (.invokevirtual 58, 3) := by decide +kernel
theorem dX7_section_6 : decode cX7_section 6 = .ok (.iconst 1, 1) := by decide +kernel
theorem dX7_section_7 : decode cX7_section 7 = .ok (.invokevirtual 30, 3) := by decide +kernel
theorem dX7_section_10 : decode cX7_section 10 = .ok (.ifCond .ne 58, 3) := by decide +kernel
theorem dX7_section_13 : decode cX7_section 13 = .ok (.aload_n 0, 1) := by decide +kernel
theorem dX7_section_14 : decode cX7_section 14 = .ok (.iload_n 2, 1) := by decide +kernel
theorem dX7_section_15 : decode cX7_section 15 = .ok (.iconst 0, 1) := by decide +kernel
theorem dX7_section_16 : decode cX7_section 16 = .ok (.bipush 19, 2) := by decide +kernel
theorem dX7_section_18 : decode cX7_section 18 = .ok (.invokestatic 26, 3) := by decide +kernel
theorem dX7_section_21 : decode cX7_section 21 = .ok (.ifCond .eq 13, 3) := by decide +kernel
theorem dX7_section_24 : decode cX7_section 24 = .ok (.iload_n 3, 1) := by decide +kernel
theorem dX7_section_25 : decode cX7_section 25 = .ok (.iconst 1, 1) := by decide +kernel
theorem dX7_section_26 : decode cX7_section 26 = .ok (.bipush 60, 2) := by decide +kernel
theorem dX7_section_28 : decode cX7_section 28 = .ok (.invokestatic 26, 3) := by decide +kernel
theorem dX7_section_31 : decode cX7_section 31 = .ok (.ifCond .ne 7, 3) := by decide +kernel
theorem dX7_section_34 : decode cX7_section 34 = .ok (.iconst 1, 1) := by decide +kernel
theorem dX7_section_35 : decode cX7_section 35 = .ok (.goto 4, 3) := by decide +kernel
theorem dX7_section_38 : decode cX7_section 38 = .ok (.iconst 0, 1) := by decide +kernel
theorem dX7_section_39 : decode cX7_section 39 = .ok (.iconst 2, 1) := by decide +kernel
theorem dX7_section_40 : decode cX7_section 40 = .ok (.invokevirtual 30, 3) := by decide +kernel
theorem dX7_section_43 : decode cX7_section 43 = .ok (.ifCond .ne 25, 3) := by decide +kernel
theorem dX7_section_46 : decode cX7_section 46 = .ok (.aload_n 0, 1) := by decide +kernel
theorem dX7_section_47 : decode cX7_section 47 = .ok (.aload_n 0, 1) := by decide +kernel
theorem dX7_section_48 : decode cX7_section 48 = .ok (.getfield 10, 3) := by decide +kernel
theorem dX7_section_51 : decode cX7_section 51 = .ok (.iload_n 1, 1) := by decide +kernel
theorem dX7_section_52 : decode cX7_section 52 = .ok (.invokevirtual 62, 3) := by decide +kernel
theorem dX7_section_55 : decode cX7_section 55 = .ok (.checkcast 38, 3) := by decide +kernel
theorem dX7_section_58 : decode cX7_section 58 = .ok (.getfield 66, 3) := by decide +kernel
theorem dX7_section_61 : decode cX7_section 61 = .ok (.iconst 3, 1) := by decide +kernel
theorem dX7_section_62 : decode cX7_section 62 = .ok (.invokevirtual 30, 3) := by decide +kernel
theorem dX7_section_65 : decode cX7_section 65 = .ok (.ifCond .eq 5, 3) := by decide +kernel
theorem dX7_section_68 : decode cX7_section 68 = .ok (.iconst 0, 1) := by decide +kernel
theorem dX7_section_69 : decode cX7_section 69 = .ok (.ireturn, 1) := by decide +kernel
theorem dX7_section_70 : decode cX7_section 70 = .ok (.aload_n 0, 1) := by decide +kernel
theorem dX7_section_71 : decode cX7_section 71 = .ok (.getfield 10, 3) := by decide +kernel
theorem dX7_section_74 : decode cX7_section 74 = .ok (.iload_n 1, 1) := by decide +kernel
theorem dX7_section_75 : decode cX7_section 75 = .ok (.invokevirtual 62, 3) := by decide +kernel
theorem dX7_section_78 : decode cX7_section 78 = .ok (.checkcast 38, 3) := by decide +kernel
theorem dX7_section_81 : decode cX7_section 81 = .ok (.getfield 41, 3) := by decide +kernel
theorem dX7_section_84 : decode cX7_section 84 = .ok (.iload_n 2, 1) := by decide +kernel
theorem dX7_section_85 : decode cX7_section 85 = .ok (.iaload, 1) := by decide +kernel
theorem dX7_section_86 : decode cX7_section 86 = .ok (.istore 4, 2) := by decide +kernel
theorem dX7_section_88 : decode cX7_section 88 = .ok (.aload_n 0, 1) := by decide +kernel
theorem dX7_section_89 : decode cX7_section 89 = .ok (.getfield 10, 3) := by decide +kernel
theorem dX7_section_92 : decode cX7_section 92 = .ok (.iload_n 1, 1) := by decide +kernel
theorem dX7_section_93 : decode cX7_section 93 = .ok (.invokevirtual 62, 3) := by decide +kernel
theorem dX7_section_96 : decode cX7_section 96 = .ok (.checkcast 38, 3) := by decide +kernel
theorem dX7_section_99 : decode cX7_section 99 = .ok (.getfield 41, 3) := by decide +kernel
theorem dX7_section_102 : decode cX7_section 102 = .ok (.iload_n 2, 1) := by decide +kernel
theorem dX7_section_103 : decode cX7_section 103 = .ok (.iload_n 3, 1) := by decide +kernel
theorem dX7_section_104 : decode cX7_section 104 = .ok (.iastore, 1) := by decide +kernel
theorem dX7_section_105 : decode cX7_section 105 = .ok (.iload 4, 2) := by decide +kernel
theorem dX7_section_107 : decode cX7_section 107 = .ok (.ireturn, 1) := by decide +kernel
set_option maxRecDepth 20000 in
theorem ggX7_bore_X7_isNoTube : GoodIn wsX7_bore wsX7_isNoTube := goodIn_r _ [7, 1, 8, 9, 10, 11, 12, 13, 14, 15, 6, 16, 39, 40, 41, 42, 43, 44, 45, 48, 49, 50] (by decide +kernel) (by decide +kernel)
set_option maxRecDepth 20000 in
theorem gX7_bore_X7_isNoTube : GoodIn wsX7_bore (wsV RX7 58 RX7 yX7_isNoTube wsX7_isNoTube) := goodIn_app (goodIn_of _ (by decide +kernel)) ggX7_bore_X7_isNoTube
set_option maxRecDepth 20000 in
theorem ggX7_bore_X7_isThrown : GoodIn wsX7_bore wsX7_isThrown := goodIn_r _ [20, 21, 39, 40, 41, 42, 43, 44, 45] (by decide +kernel) (by decide +kernel)
set_option maxRecDepth 20000 in
theorem gX7_bore_X7_isThrown : GoodIn wsX7_bore (wsV RX7 30 RX7 yX7_isThrown wsX7_isThrown) := goodIn_app (goodIn_of _ (by decide +kernel)) ggX7_bore_X7_isThrown
set_option maxRecDepth 20000 in
theorem ggX7_bore_X7_isIn : GoodIn wsX7_bore wsX7_isIn := goodIn_r _ [16] (by decide +kernel) (by decide +kernel)
set_option maxRecDepth 20000 in
theorem gX7_bore_X7_isIn : GoodIn wsX7_bore (va_wsS RX7 26 yX7_isIn wsX7_isIn) := goodIn_app (goodIn_of _ (by decide +kernel)) ggX7_bore_X7_isIn
set_option maxRecDepth 20000 in
theorem ggX7_bore_Jx4a65c_get_915e3 : GoodIn wsX7_bore wsJx4a65c_get_915e3 := goodIn_r _ [25, 13, 26, 27, 28, 29, 30, 31, 32, 33, 34, 35, 36, 11, 37, 38, 48, 49, 50] (by decide +kernel) (by decide +kernel)
set_option maxRecDepth 20000 in
theorem gX7_bore_Jx4a65c_get_915e3 : GoodIn wsX7_bore (wsV RX7 62 RJx4a65c yJx4a65c_get_915e3 wsJx4a65c_get_915e3) := goodIn_app (goodIn_of _ (by decide +kernel)) ggX7_bore_Jx4a65c_get_915e3
theorem dX7_bore_0 : decode cX7_bore 0 = .ok (.aload_n 0, 1) := by decide +kernel
theorem dX7_bore_1 : decode cX7_bore 1 = .ok (.aload_n 0, 1) := by decide +kernel
theorem dX7_bore_2 : decode cX7_bore 2 = .ok (.iload_n 1, 1) := by decide +kernel
theorem dX7_bore_3 : decode cX7_bore 3 = .ok (.invokevirtual 58, 3) := by decide +kernel
theorem dX7_bore_6 : decode cX7_bore 6 = .ok (.iconst 1, 1) := by decide +kernel
theorem dX7_bore_7 : decode cX7_bore 7 = .ok (.invokevirtual 30, 3) := by decide +kernel
theorem dX7_bore_10 : decode cX7_bore 10 = .ok (.ifCond .ne 26, 3) := by decide +kernel
theorem dX7_bore_13 : decode cX7_bore 13 = .ok (.aload_n 0, 1) := by decide +kernel
theorem dX7_bore_14 : decode cX7_bore 14 = .ok (.iload_n 2, 1) := by decide +kernel
theorem dX7_bore_15 : decode cX7_bore 15 = .ok (.iconst 0, 1) := by decide +kernel
theorem dX7_bore_16 : decode cX7_bore 16 = .ok (.bipush 19, 2) := by decide +kernel
theorem dX7_bore_18 : decode cX7_bore 18 = .ok (.invokestatic 26, 3) := by decide +kernel
theorem dX7_bore_21 : decode cX7_bore 21 = .ok (.ifCond .ne 7, 3) := by decide +kernel
theorem dX7_bore_24 : decode cX7_bore 24 = .ok (.iconst 1, 1) := by decide +kernel
theorem dX7_bore_25 : decode cX7_bore 25 = .ok (.goto 4, 3) := by decide +kernel
theorem dX7_bore_28 : decode cX7_bore 28 = .ok (.iconst 0, 1) := by decide +kernel
theorem dX7_bore_29 : decode cX7_bore 29 = .ok (.iconst 2, 1) := by decide +kernel
theorem dX7_bore_30 : decode cX7_bore 30 = .ok (.invokevirtual 30, 3) := by decide +kernel
theorem dX7_bore_33 : decode cX7_bore 33 = .ok (.ifCond .eq 7, 3) := by decide +kernel
theorem dX7_bore_36 : decode cX7_bore 36 = .ok (.iconst 0, 1) := by decide +kernel
theorem dX7_bore_37 : decode cX7_bore 37 = .ok (.goto 19, 3) := by decide +kernel
theorem dX7_bore_40 : decode cX7_bore 40 = .ok (.aload_n 0, 1) := by decide +kernel
theorem dX7_bore_41 : decode cX7_bore 41 = .ok (.getfield 10, 3) := by decide +kernel
theorem dX7_bore_44 : decode cX7_bore 44 = .ok (.iload_n 1, 1) := by decide +kernel
theorem dX7_bore_45 : decode cX7_bore 45 = .ok (.invokevirtual 62, 3) := by decide +kernel
theorem dX7_bore_48 : decode cX7_bore 48 = .ok (.checkcast 38, 3) := by decide +kernel
theorem dX7_bore_51 : decode cX7_bore 51 = .ok (.getfield 41, 3) := by decide +kernel
theorem dX7_bore_54 : decode cX7_bore 54 = .ok (.iload_n 2, 1) := by decide +kernel
theorem dX7_bore_55 : decode cX7_bore 55 = .ok (.iaload, 1) := by decide +kernel
theorem dX7_bore_56 : decode cX7_bore 56 = .ok (.ireturn, 1) := by decide +kernel
set_option maxRecDepth 20000 in
theorem ggX7_volume_X7_isNoTube : GoodIn wsX7_volume wsX7_isNoTube := goodIn_r _ [7, 1, 8, 9, 10, 11, 12, 13, 14, 15, 6, 16, 48, 49, 50, 51, 52, 53, 54, 55, 56, 57] (by decide +kernel) (by decide +kernel)
set_option maxRecDepth 20000 in
theorem gX7_volume_X7_isNoTube : GoodIn wsX7_volume (wsV RX7 58 RX7 yX7_isNoTube wsX7_isNoTube) := goodIn_app (goodIn_of _ (by decide +kernel)) ggX7_volume_X7_isNoTube
set_option maxRecDepth 20000 in
theorem ggX7_volume_X7_isThrown : GoodIn wsX7_volume wsX7_isThrown := goodIn_r _ [20, 21, 48, 49, 50, 51, 52, 53, 54] (by decide +kernel) (by decide +kernel)
set_option maxRecDepth 20000 in
theorem gX7_volume_X7_isThrown : GoodIn wsX7_volume (wsV RX7 30 RX7 yX7_isThrown wsX7_isThrown) := goodIn_app (goodIn_of _ (by decide +kernel)) ggX7_volume_X7_isThrown
set_option maxRecDepth 20000 in
theorem ggX7_volume_X7_isNoPlace : GoodIn wsX7_volume wsX7_isNoPlace := goodIn_r _ [24, 14, 15, 6, 16] (by decide +kernel) (by decide +kernel)
set_option maxRecDepth 20000 in
theorem gX7_volume_X7_isNoPlace : GoodIn wsX7_volume (va_wsS RX7 70 yX7_isNoPlace wsX7_isNoPlace) := goodIn_app (goodIn_of _ (by decide +kernel)) ggX7_volume_X7_isNoPlace
set_option maxRecDepth 20000 in
theorem ggX7_volume_Jx4a65c_get_915e3 : GoodIn wsX7_volume wsJx4a65c_get_915e3 := goodIn_r _ [28, 13, 29, 30, 31, 32, 33, 34, 35, 36, 37, 38, 39, 11, 40, 41, 55, 56, 57] (by decide +kernel) (by decide +kernel)
set_option maxRecDepth 20000 in
theorem gX7_volume_Jx4a65c_get_915e3 : GoodIn wsX7_volume (wsV RX7 62 RJx4a65c yJx4a65c_get_915e3 wsJx4a65c_get_915e3) := goodIn_app (goodIn_of _ (by decide +kernel)) ggX7_volume_Jx4a65c_get_915e3
set_option maxRecDepth 20000 in
theorem ggX7_volume_X6_volume : GoodIn wsX7_volume wsX6_volume := goodIn_r _ [46, 47, 58, 59] (by decide +kernel) (by decide +kernel)
set_option maxRecDepth 20000 in
theorem gX7_volume_X6_volume : GoodIn wsX7_volume (wsV RX7 73 RX6 yX6_volume wsX6_volume) := goodIn_app (goodIn_of _ (by decide +kernel)) ggX7_volume_X6_volume
theorem dX7_volume_0 : decode cX7_volume 0 = .ok (.aload_n 0, 1) := by decide +kernel
theorem dX7_volume_1 : decode cX7_volume 1 = .ok (.aload_n 0, 1) := by decide +kernel
theorem dX7_volume_2 : decode cX7_volume 2 = .ok (.iload_n 1, 1) := by decide +kernel
theorem dX7_volume_3 : decode cX7_volume 3 = .ok (.invokevirtual 58, 3) := by decide +kernel
theorem dX7_volume_6 : decode cX7_volume 6 = .ok (.iconst 1, 1) := by decide +kernel
theorem dX7_volume_7 : decode cX7_volume 7 = .ok (.invokevirtual 30, 3) := by decide +kernel
theorem dX7_volume_10 : decode cX7_volume 10 = .ok (.ifCond .ne 15, 3) := by decide +kernel
theorem dX7_volume_13 : decode cX7_volume 13 = .ok (.aload_n 0, 1) := by decide +kernel
theorem dX7_volume_14 : decode cX7_volume 14 = .ok (.iload_n 2, 1) := by decide +kernel
theorem dX7_volume_15 : decode cX7_volume 15 = .ok (.invokestatic 70, 3) := by decide +kernel
theorem dX7_volume_18 : decode cX7_volume 18 = .ok (.iconst 2, 1) := by decide +kernel
theorem dX7_volume_19 : decode cX7_volume 19 = .ok (.invokevirtual 30, 3) := by decide +kernel
theorem dX7_volume_22 : decode cX7_volume 22 = .ok (.ifCond .eq 7, 3) := by decide +kernel
theorem dX7_volume_25 : decode cX7_volume 25 = .ok (.iconst 0, 1) := by decide +kernel
theorem dX7_volume_26 : decode cX7_volume 26 = .ok (.goto 18, 3) := by decide +kernel
theorem dX7_volume_29 : decode cX7_volume 29 = .ok (.aload_n 0, 1) := by decide +kernel
theorem dX7_volume_30 : decode cX7_volume 30 = .ok (.getfield 10, 3) := by decide +kernel
theorem dX7_volume_33 : decode cX7_volume 33 = .ok (.iload_n 1, 1) := by decide +kernel
theorem dX7_volume_34 : decode cX7_volume 34 = .ok (.invokevirtual 62, 3) := by decide +kernel
theorem dX7_volume_37 : decode cX7_volume 37 = .ok (.checkcast 38, 3) := by decide +kernel
theorem dX7_volume_40 : decode cX7_volume 40 = .ok (.iload_n 2, 1) := by decide +kernel
theorem dX7_volume_41 : decode cX7_volume 41 = .ok (.invokevirtual 73, 3) := by decide +kernel
theorem dX7_volume_44 : decode cX7_volume 44 = .ok (.ireturn, 1) := by decide +kernel
set_option maxRecDepth 20000 in
theorem ggX7_thread_X7_isNoTube : GoodIn wsX7_thread wsX7_isNoTube := goodIn_r _ [8, 2, 9, 10, 11, 12, 13, 14, 15, 16, 7, 17, 49, 50, 51, 52, 53, 54, 55, 56, 57, 58] (by decide +kernel) (by decide +kernel)
set_option maxRecDepth 20000 in
theorem gX7_thread_X7_isNoTube : GoodIn wsX7_thread (wsV RX7 58 RX7 yX7_isNoTube wsX7_isNoTube) := goodIn_app (goodIn_of _ (by decide +kernel)) ggX7_thread_X7_isNoTube
set_option maxRecDepth 20000 in
theorem ggX7_thread_X7_isThrown : GoodIn wsX7_thread wsX7_isThrown := goodIn_r _ [21, 22, 49, 50, 51, 52, 53, 54, 55] (by decide +kernel) (by decide +kernel)
set_option maxRecDepth 20000 in
theorem gX7_thread_X7_isThrown : GoodIn wsX7_thread (wsV RX7 30 RX7 yX7_isThrown wsX7_isThrown) := goodIn_app (goodIn_of _ (by decide +kernel)) ggX7_thread_X7_isThrown
set_option maxRecDepth 20000 in
theorem ggX7_thread_X7_isNoPlace : GoodIn wsX7_thread wsX7_isNoPlace := goodIn_r _ [25, 15, 16, 7, 17] (by decide +kernel) (by decide +kernel)
set_option maxRecDepth 20000 in
theorem gX7_thread_X7_isNoPlace : GoodIn wsX7_thread (va_wsS RX7 70 yX7_isNoPlace wsX7_isNoPlace) := goodIn_app (goodIn_of _ (by decide +kernel)) ggX7_thread_X7_isNoPlace
set_option maxRecDepth 20000 in
theorem ggX7_thread_X7_isIn : GoodIn wsX7_thread wsX7_isIn := goodIn_r _ [17] (by decide +kernel) (by decide +kernel)
set_option maxRecDepth 20000 in
theorem gX7_thread_X7_isIn : GoodIn wsX7_thread (va_wsS RX7 26 yX7_isIn wsX7_isIn) := goodIn_app (goodIn_of _ (by decide +kernel)) ggX7_thread_X7_isIn
set_option maxRecDepth 20000 in
theorem ggX7_thread_Jx4a65c_get_915e3 : GoodIn wsX7_thread wsJx4a65c_get_915e3 := goodIn_r _ [29, 14, 30, 31, 32, 33, 34, 35, 36, 37, 38, 39, 40, 12, 41, 42, 56, 57, 58] (by decide +kernel) (by decide +kernel)
set_option maxRecDepth 20000 in
theorem gX7_thread_Jx4a65c_get_915e3 : GoodIn wsX7_thread (wsV RX7 62 RJx4a65c yJx4a65c_get_915e3 wsJx4a65c_get_915e3) := goodIn_app (goodIn_of _ (by decide +kernel)) ggX7_thread_Jx4a65c_get_915e3
set_option maxRecDepth 20000 in
theorem ggX7_thread_X6_volume : GoodIn wsX7_thread wsX6_volume := goodIn_r _ [47, 48, 59, 60] (by decide +kernel) (by decide +kernel)
set_option maxRecDepth 20000 in
theorem gX7_thread_X6_volume : GoodIn wsX7_thread (wsV RX7 73 RX6 yX6_volume wsX6_volume) := goodIn_app (goodIn_of _ (by decide +kernel)) ggX7_thread_X6_volume
theorem dX7_thread_0 : decode cX7_thread 0 = .ok (.aload_n 0, 1) := by decide +kernel
theorem dX7_thread_1 : decode cX7_thread 1 = .ok (.aload_n 0, 1) := by decide +kernel
theorem dX7_thread_2 : decode cX7_thread 2 = .ok (.iload_n 1, 1) := by decide +kernel
theorem dX7_thread_3 : decode cX7_thread 3 = .ok (.invokevirtual 58, 3) := by decide +kernel
theorem dX7_thread_6 : decode cX7_thread 6 = .ok (.iconst 1, 1) := by decide +kernel
theorem dX7_thread_7 : decode cX7_thread 7 = .ok (.invokevirtual 30, 3) := by decide +kernel
theorem dX7_thread_10 : decode cX7_thread 10 = .ok (.ifCond .ne 33, 3) := by decide +kernel
theorem dX7_thread_13 : decode cX7_thread 13 = .ok (.aload_n 0, 1) := by decide +kernel
theorem dX7_thread_14 : decode cX7_thread 14 = .ok (.iload_n 2, 1) := by decide +kernel
theorem dX7_thread_15 : decode cX7_thread 15 = .ok (.invokestatic 70, 3) := by decide +kernel
theorem dX7_thread_18 : decode cX7_thread 18 = .ok (.ifCond .ne 13, 3) := by decide +kernel
theorem dX7_thread_21 : decode cX7_thread 21 = .ok (.iload_n 3, 1) := by decide +kernel
theorem dX7_thread_22 : decode cX7_thread 22 = .ok (.iconst 1, 1) := by decide +kernel
theorem dX7_thread_23 : decode cX7_thread 23 = .ok (.ldc 77, 2) := by decide +kernel
theorem dX7_thread_25 : decode cX7_thread 25 = .ok (.invokestatic 26, 3) := by decide +kernel
theorem dX7_thread_28 : decode cX7_thread 28 = .ok (.ifCond .ne 7, 3) := by decide +kernel
theorem dX7_thread_31 : decode cX7_thread 31 = .ok (.iconst 1, 1) := by decide +kernel
theorem dX7_thread_32 : decode cX7_thread 32 = .ok (.goto 4, 3) := by decide +kernel
theorem dX7_thread_35 : decode cX7_thread 35 = .ok (.iconst 0, 1) := by decide +kernel
theorem dX7_thread_36 : decode cX7_thread 36 = .ok (.iconst 2, 1) := by decide +kernel
theorem dX7_thread_37 : decode cX7_thread 37 = .ok (.invokevirtual 30, 3) := by decide +kernel
theorem dX7_thread_40 : decode cX7_thread 40 = .ok (.ifCond .eq 5, 3) := by decide +kernel
theorem dX7_thread_43 : decode cX7_thread 43 = .ok (.iconst 0, 1) := by decide +kernel
theorem dX7_thread_44 : decode cX7_thread 44 = .ok (.ireturn, 1) := by decide +kernel
theorem dX7_thread_45 : decode cX7_thread 45 = .ok (.iload_n 2, 1) := by decide +kernel
theorem dX7_thread_46 : decode cX7_thread 46 = .ok (.istore 4, 2) := by decide +kernel
theorem dX7_thread_48 : decode cX7_thread 48 = .ok (.aload_n 0, 1) := by decide +kernel
theorem dX7_thread_49 : decode cX7_thread 49 = .ok (.getfield 10, 3) := by decide +kernel
theorem dX7_thread_52 : decode cX7_thread 52 = .ok (.iload_n 1, 1) := by decide +kernel
theorem dX7_thread_53 : decode cX7_thread 53 = .ok (.invokevirtual 62, 3) := by decide +kernel
theorem dX7_thread_56 : decode cX7_thread 56 = .ok (.checkcast 38, 3) := by decide +kernel
theorem dX7_thread_59 : decode cX7_thread 59 = .ok (.iload_n 2, 1) := by decide +kernel
theorem dX7_thread_60 : decode cX7_thread 60 = .ok (.invokevirtual 73, 3) := by decide +kernel
theorem dX7_thread_63 : decode cX7_thread 63 = .ok (.iload_n 3, 1) := by decide +kernel
theorem dX7_thread_64 : decode cX7_thread 64 = .ok (.iadd, 1) := by decide +kernel
theorem dX7_thread_65 : decode cX7_thread 65 = .ok (.istore 5, 2) := by decide +kernel
theorem dX7_thread_67 : decode cX7_thread 67 = .ok (.iload 4, 2) := by decide +kernel
theorem dX7_thread_69 : decode cX7_thread 69 = .ok (.sipush 200, 3) := by decide +kernel
theorem dX7_thread_72 : decode cX7_thread 72 = .ok (.if_icmp .ge 30, 3) := by decide +kernel
theorem dX7_thread_75 : decode cX7_thread 75 = .ok (.aload_n 0, 1) := by decide +kernel
theorem dX7_thread_76 : decode cX7_thread 76 = .ok (.getfield 10, 3) := by decide +kernel
theorem dX7_thread_79 : decode cX7_thread 79 = .ok (.iload_n 1, 1) := by decide +kernel
theorem dX7_thread_80 : decode cX7_thread 80 = .ok (.invokevirtual 62, 3) := by decide +kernel
theorem dX7_thread_83 : decode cX7_thread 83 = .ok (.checkcast 38, 3) := by decide +kernel
theorem dX7_thread_86 : decode cX7_thread 86 = .ok (.iload 4, 2) := by decide +kernel
theorem dX7_thread_88 : decode cX7_thread 88 = .ok (.invokevirtual 73, 3) := by decide +kernel
theorem dX7_thread_91 : decode cX7_thread 91 = .ok (.iload 5, 2) := by decide +kernel
theorem dX7_thread_93 : decode cX7_thread 93 = .ok (.if_icmp .ge 9, 3) := by decide +kernel
theorem dX7_thread_96 : decode cX7_thread 96 = .ok (.iinc 4 1, 3) := by decide +kernel
theorem dX7_thread_99 : decode cX7_thread 99 = .ok (.goto (-32), 3) := by decide +kernel
theorem dX7_thread_102 : decode cX7_thread 102 = .ok (.aload_n 0, 1) := by decide +kernel
theorem dX7_thread_103 : decode cX7_thread 103 = .ok (.aload_n 0, 1) := by decide +kernel
theorem dX7_thread_104 : decode cX7_thread 104 = .ok (.getfield 10, 3) := by decide +kernel
theorem dX7_thread_107 : decode cX7_thread 107 = .ok (.iload_n 1, 1) := by decide +kernel
theorem dX7_thread_108 : decode cX7_thread 108 = .ok (.invokevirtual 62, 3) := by decide +kernel
theorem dX7_thread_111 : decode cX7_thread 111 = .ok (.checkcast 38, 3) := by decide +kernel
theorem dX7_thread_114 : decode cX7_thread 114 = .ok (.iload 4, 2) := by decide +kernel
theorem dX7_thread_116 : decode cX7_thread 116 = .ok (.invokevirtual 73, 3) := by decide +kernel
theorem dX7_thread_119 : decode cX7_thread 119 = .ok (.iload 5, 2) := by decide +kernel
theorem dX7_thread_121 : decode cX7_thread 121 = .ok (.if_icmp .ge 7, 3) := by decide +kernel
theorem dX7_thread_124 : decode cX7_thread 124 = .ok (.iconst 1, 1) := by decide +kernel
theorem dX7_thread_125 : decode cX7_thread 125 = .ok (.goto 4, 3) := by decide +kernel
theorem dX7_thread_128 : decode cX7_thread 128 = .ok (.iconst 0, 1) := by decide +kernel
theorem dX7_thread_129 : decode cX7_thread 129 = .ok (.iconst 3, 1) := by decide +kernel
theorem dX7_thread_130 : decode cX7_thread 130 = .ok (.invokevirtual 30, 3) := by decide +kernel
theorem dX7_thread_133 : decode cX7_thread 133 = .ok (.ifCond .eq 7, 3) := by decide +kernel
theorem dX7_thread_136 : decode cX7_thread 136 = .ok (.iconst 0, 1) := by decide +kernel
theorem dX7_thread_137 : decode cX7_thread 137 = .ok (.goto 5, 3) := by decide +kernel
theorem dX7_thread_140 : decode cX7_thread 140 = .ok (.iload 4, 2) := by decide +kernel
theorem dX7_thread_142 : decode cX7_thread 142 = .ok (.ireturn, 1) := by decide +kernel
set_option maxRecDepth 20000 in
theorem ggX7_widest_X7_isNoTube : GoodIn wsX7_widest wsX7_isNoTube := goodIn_r _ [7, 1, 8, 9, 10, 11, 12, 13, 14, 15, 6, 16, 39, 40, 41, 42, 43, 44, 45, 48, 49, 50] (by decide +kernel) (by decide +kernel)
set_option maxRecDepth 20000 in
theorem gX7_widest_X7_isNoTube : GoodIn wsX7_widest (wsV RX7 58 RX7 yX7_isNoTube wsX7_isNoTube) := goodIn_app (goodIn_of _ (by decide +kernel)) ggX7_widest_X7_isNoTube
set_option maxRecDepth 20000 in
theorem ggX7_widest_X7_isThrown : GoodIn wsX7_widest wsX7_isThrown := goodIn_r _ [20, 21, 39, 40, 41, 42, 43, 44, 45] (by decide +kernel) (by decide +kernel)
set_option maxRecDepth 20000 in
theorem gX7_widest_X7_isThrown : GoodIn wsX7_widest (wsV RX7 30 RX7 yX7_isThrown wsX7_isThrown) := goodIn_app (goodIn_of _ (by decide +kernel)) ggX7_widest_X7_isThrown
set_option maxRecDepth 20000 in
theorem ggX7_widest_Jx4a65c_get_915e3 : GoodIn wsX7_widest wsJx4a65c_get_915e3 := goodIn_r _ [25, 13, 26, 27, 28, 29, 30, 31, 32, 33, 34, 35, 36, 11, 37, 38, 48, 49, 50] (by decide +kernel) (by decide +kernel)
set_option maxRecDepth 20000 in
theorem gX7_widest_Jx4a65c_get_915e3 : GoodIn wsX7_widest (wsV RX7 62 RJx4a65c yJx4a65c_get_915e3 wsJx4a65c_get_915e3) := goodIn_app (goodIn_of _ (by decide +kernel)) ggX7_widest_Jx4a65c_get_915e3
theorem dX7_widest_0 : decode cX7_widest 0 = .ok (.aload_n 0, 1) := by decide +kernel
theorem dX7_widest_1 : decode cX7_widest 1 = .ok (.aload_n 0, 1) := by decide +kernel
theorem dX7_widest_2 : decode cX7_widest 2 = .ok (.iload_n 1, 1) := by decide +kernel
theorem dX7_widest_3 : decode cX7_widest 3 = .ok (.invokevirtual 58, 3) := by decide +kernel
theorem dX7_widest_6 : decode cX7_widest 6 = .ok (.iconst 1, 1) := by decide +kernel
theorem dX7_widest_7 : decode cX7_widest 7 = .ok (.invokevirtual 30, 3) := by decide +kernel
theorem dX7_widest_10 : decode cX7_widest 10 = .ok (.ifCond .eq 5, 3) := by decide +kernel
theorem dX7_widest_13 : decode cX7_widest 13 = .ok (.iconst 0, 1) := by decide +kernel
theorem dX7_widest_14 : decode cX7_widest 14 = .ok (.ireturn, 1) := by decide +kernel
theorem dX7_widest_15 : decode cX7_widest 15 = .ok (.iconst 0, 1) := by decide +kernel
theorem dX7_widest_16 : decode cX7_widest 16 = .ok (.istore_n 2, 1) := by decide +kernel
theorem dX7_widest_17 : decode cX7_widest 17 = .ok (.iconst 1, 1) := by decide +kernel
theorem dX7_widest_18 : decode cX7_widest 18 = .ok (.istore_n 3, 1) := by decide +kernel
theorem dX7_widest_19 : decode cX7_widest 19 = .ok (.iload_n 3, 1) := by decide +kernel
theorem dX7_widest_20 : decode cX7_widest 20 = .ok (.bipush 20, 2) := by decide +kernel
theorem dX7_widest_22 : decode cX7_widest 22 = .ok (.if_icmp .ge 50, 3) := by decide +kernel
theorem dX7_widest_25 : decode cX7_widest 25 = .ok (.aload_n 0, 1) := by decide +kernel
theorem dX7_widest_26 : decode cX7_widest 26 = .ok (.getfield 10, 3) := by decide +kernel
theorem dX7_widest_29 : decode cX7_widest 29 = .ok (.iload_n 1, 1) := by decide +kernel
theorem dX7_widest_30 : decode cX7_widest 30 = .ok (.invokevirtual 62, 3) := by decide +kernel
theorem dX7_widest_33 : decode cX7_widest 33 = .ok (.checkcast 38, 3) := by decide +kernel
theorem dX7_widest_36 : decode cX7_widest 36 = .ok (.getfield 41, 3) := by decide +kernel
theorem dX7_widest_39 : decode cX7_widest 39 = .ok (.iload_n 3, 1) := by decide +kernel
theorem dX7_widest_40 : decode cX7_widest 40 = .ok (.iaload, 1) := by decide +kernel
theorem dX7_widest_41 : decode cX7_widest 41 = .ok (.aload_n 0, 1) := by decide +kernel
theorem dX7_widest_42 : decode cX7_widest 42 = .ok (.getfield 10, 3) := by decide +kernel
theorem dX7_widest_45 : decode cX7_widest 45 = .ok (.iload_n 1, 1) := by decide +kernel
theorem dX7_widest_46 : decode cX7_widest 46 = .ok (.invokevirtual 62, 3) := by decide +kernel
theorem dX7_widest_49 : decode cX7_widest 49 = .ok (.checkcast 38, 3) := by decide +kernel
theorem dX7_widest_52 : decode cX7_widest 52 = .ok (.getfield 41, 3) := by decide +kernel
theorem dX7_widest_55 : decode cX7_widest 55 = .ok (.iload_n 2, 1) := by decide +kernel
theorem dX7_widest_56 : decode cX7_widest 56 = .ok (.iaload, 1) := by decide +kernel
theorem dX7_widest_57 : decode cX7_widest 57 = .ok (.if_icmp .le 7, 3) := by decide +kernel
theorem dX7_widest_60 : decode cX7_widest 60 = .ok (.iload_n 3, 1) := by decide +kernel
theorem dX7_widest_61 : decode cX7_widest 61 = .ok (.goto 4, 3) := by decide +kernel
theorem dX7_widest_64 : decode cX7_widest 64 = .ok (.iload_n 2, 1) := by decide +kernel
theorem dX7_widest_65 : decode cX7_widest 65 = .ok (.istore_n 2, 1) := by decide +kernel
theorem dX7_widest_66 : decode cX7_widest 66 = .ok (.iinc 3 1, 3) := by decide +kernel
theorem dX7_widest_69 : decode cX7_widest 69 = .ok (.goto (-50), 3) := by decide +kernel
theorem dX7_widest_72 : decode cX7_widest 72 = .ok (.iload_n 2, 1) := by decide +kernel
theorem dX7_widest_73 : decode cX7_widest 73 = .ok (.ireturn, 1) := by decide +kernel
set_option maxRecDepth 20000 in
theorem ggX7_deliver_X7_isNoTube : GoodIn wsX7_deliver wsX7_isNoTube := goodIn_r _ [11, 5, 12, 13, 14, 15, 16, 17, 18, 19, 10, 20, 46, 47, 48, 49, 50, 51, 52, 55, 56, 57] (by decide +kernel) (by decide +kernel)
set_option maxRecDepth 20000 in
theorem gX7_deliver_X7_isNoTube : GoodIn wsX7_deliver (wsV RX7 58 RX7 yX7_isNoTube wsX7_isNoTube) := goodIn_app (goodIn_of _ (by decide +kernel)) ggX7_deliver_X7_isNoTube
set_option maxRecDepth 20000 in
theorem ggX7_deliver_X7_isThrown : GoodIn wsX7_deliver wsX7_isThrown := goodIn_r _ [24, 25, 46, 47, 48, 49, 50, 51, 52] (by decide +kernel) (by decide +kernel)
set_option maxRecDepth 20000 in
theorem gX7_deliver_X7_isThrown : GoodIn wsX7_deliver (wsV RX7 30 RX7 yX7_isThrown wsX7_isThrown) := goodIn_app (goodIn_of _ (by decide +kernel)) ggX7_deliver_X7_isThrown
set_option maxRecDepth 20000 in
theorem ggX7_deliver_X7_isNoPlace : GoodIn wsX7_deliver wsX7_isNoPlace := goodIn_r _ [28, 18, 19, 10, 20] (by decide +kernel) (by decide +kernel)
set_option maxRecDepth 20000 in
theorem gX7_deliver_X7_isNoPlace : GoodIn wsX7_deliver (va_wsS RX7 70 yX7_isNoPlace wsX7_isNoPlace) := goodIn_app (goodIn_of _ (by decide +kernel)) ggX7_deliver_X7_isNoPlace
set_option maxRecDepth 20000 in
theorem ggX7_deliver_X7_isIn : GoodIn wsX7_deliver wsX7_isIn := goodIn_r _ [20] (by decide +kernel) (by decide +kernel)
set_option maxRecDepth 20000 in
theorem gX7_deliver_X7_isIn : GoodIn wsX7_deliver (va_wsS RX7 26 yX7_isIn wsX7_isIn) := goodIn_app (goodIn_of _ (by decide +kernel)) ggX7_deliver_X7_isIn
set_option maxRecDepth 20000 in
theorem ggX7_deliver_Jx4a65c_get_915e3 : GoodIn wsX7_deliver wsJx4a65c_get_915e3 := goodIn_r _ [32, 17, 33, 34, 35, 36, 37, 38, 39, 40, 41, 42, 43, 15, 44, 45, 55, 56, 57] (by decide +kernel) (by decide +kernel)
set_option maxRecDepth 20000 in
theorem gX7_deliver_Jx4a65c_get_915e3 : GoodIn wsX7_deliver (wsV RX7 62 RJx4a65c yJx4a65c_get_915e3 wsJx4a65c_get_915e3) := goodIn_app (goodIn_of _ (by decide +kernel)) ggX7_deliver_Jx4a65c_get_915e3
theorem dX7_deliver_0 : decode cX7_deliver 0 = .ok (.aload_n 0, 1) := by decide +kernel
theorem dX7_deliver_1 : decode cX7_deliver 1 = .ok (.aload_n 0, 1) := by decide +kernel
theorem dX7_deliver_2 : decode cX7_deliver 2 = .ok (.iload_n 1, 1) := by decide +kernel
theorem dX7_deliver_3 : decode cX7_deliver 3 = .ok (.invokevirtual 58, 3) := by decide +kernel
theorem dX7_deliver_6 : decode cX7_deliver 6 = .ok (.iconst 1, 1) := by decide +kernel
theorem dX7_deliver_7 : decode cX7_deliver 7 = .ok (.invokevirtual 30, 3) := by decide +kernel
theorem dX7_deliver_10 : decode cX7_deliver 10 = .ok (.ifCond .ne 47, 3) := by decide +kernel
theorem dX7_deliver_13 : decode cX7_deliver 13 = .ok (.aload_n 0, 1) := by decide +kernel
theorem dX7_deliver_14 : decode cX7_deliver 14 = .ok (.iload_n 2, 1) := by decide +kernel
theorem dX7_deliver_15 : decode cX7_deliver 15 = .ok (.invokestatic 70, 3) := by decide +kernel
theorem dX7_deliver_18 : decode cX7_deliver 18 = .ok (.ifCond .ne 27, 3) := by decide +kernel
theorem dX7_deliver_21 : decode cX7_deliver 21 = .ok (.iload_n 3, 1) := by decide +kernel
theorem dX7_deliver_22 : decode cX7_deliver 22 = .ok (.invokestatic 70, 3) := by decide +kernel
theorem dX7_deliver_25 : decode cX7_deliver 25 = .ok (.ifCond .ne 20, 3) := by decide +kernel
theorem dX7_deliver_28 : decode cX7_deliver 28 = .ok (.iload_n 3, 1) := by decide +kernel
theorem dX7_deliver_29 : decode cX7_deliver 29 = .ok (.iload_n 2, 1) := by decide +kernel
theorem dX7_deliver_30 : decode cX7_deliver 30 = .ok (.if_icmp .ge 15, 3) := by decide +kernel
theorem dX7_deliver_33 : decode cX7_deliver 33 = .ok (.iload 4, 2) := by decide +kernel
theorem dX7_deliver_35 : decode cX7_deliver 35 = .ok (.iconst 1, 1) := by decide +kernel
theorem dX7_deliver_36 : decode cX7_deliver 36 = .ok (.sipush 999, 3) := by decide +kernel
theorem dX7_deliver_39 : decode cX7_deliver 39 = .ok (.invokestatic 26, 3) := by decide +kernel
theorem dX7_deliver_42 : decode cX7_deliver 42 = .ok (.ifCond .ne 7, 3) := by decide +kernel
theorem dX7_deliver_45 : decode cX7_deliver 45 = .ok (.iconst 1, 1) := by decide +kernel
theorem dX7_deliver_46 : decode cX7_deliver 46 = .ok (.goto 4, 3) := by decide +kernel
theorem dX7_deliver_49 : decode cX7_deliver 49 = .ok (.iconst 0, 1) := by decide +kernel
theorem dX7_deliver_50 : decode cX7_deliver 50 = .ok (.iconst 2, 1) := by decide +kernel
theorem dX7_deliver_51 : decode cX7_deliver 51 = .ok (.invokevirtual 30, 3) := by decide +kernel
theorem dX7_deliver_54 : decode cX7_deliver 54 = .ok (.ifCond .eq 5, 3) := by decide +kernel
theorem dX7_deliver_57 : decode cX7_deliver 57 = .ok (.iconst 0, 1) := by decide +kernel
theorem dX7_deliver_58 : decode cX7_deliver 58 = .ok (.ireturn, 1) := by decide +kernel
theorem dX7_deliver_59 : decode cX7_deliver 59 = .ok (.iconst 0, 1) := by decide +kernel
theorem dX7_deliver_60 : decode cX7_deliver 60 = .ok (.bipush 60, 2) := by decide +kernel
theorem dX7_deliver_62 : decode cX7_deliver 62 = .ok (.iload 4, 2) := by decide +kernel
theorem dX7_deliver_64 : decode cX7_deliver 64 = .ok (.isub, 1) := by decide +kernel
theorem dX7_deliver_65 : decode cX7_deliver 65 = .ok (.bipush 9, 2) := by decide +kernel
theorem dX7_deliver_67 : decode cX7_deliver 67 = .ok (.iadd, 1) := by decide +kernel
theorem dX7_deliver_68 : decode cX7_deliver 68 = .ok (.bipush 10, 2) := by decide +kernel
theorem dX7_deliver_70 : decode cX7_deliver 70 = .ok (.idiv, 1) := by decide +kernel
theorem dX7_deliver_71 : decode cX7_deliver 71 = .ok (.invokestatic 51, 3) := by decide +kernel
theorem dX7_deliver_74 : decode cX7_deliver 74 = .ok (.istore 5, 2) := by decide +kernel
theorem dX7_deliver_76 : decode cX7_deliver 76 = .ok (.iconst 0, 1) := by decide +kernel
theorem dX7_deliver_77 : decode cX7_deliver 77 = .ok (.istore 6, 2) := by decide +kernel
theorem dX7_deliver_79 : decode cX7_deliver 79 = .ok (.iload_n 3, 1) := by decide +kernel
theorem dX7_deliver_80 : decode cX7_deliver 80 = .ok (.istore 7, 2) := by decide +kernel
theorem dX7_deliver_82 : decode cX7_deliver 82 = .ok (.iload 7, 2) := by decide +kernel
theorem dX7_deliver_84 : decode cX7_deliver 84 = .ok (.iload_n 2, 1) := by decide +kernel
theorem dX7_deliver_85 : decode cX7_deliver 85 = .ok (.if_icmp .ge 41, 3) := by decide +kernel
theorem dX7_deliver_88 : decode cX7_deliver 88 = .ok (.iload 6, 2) := by decide +kernel
theorem dX7_deliver_90 : decode cX7_deliver 90 = .ok (.iconst 0, 1) := by decide +kernel
theorem dX7_deliver_91 : decode cX7_deliver 91 = .ok (.aload_n 0, 1) := by decide +kernel
theorem dX7_deliver_92 : decode cX7_deliver 92 = .ok (.getfield 10, 3) := by decide +kernel
theorem dX7_deliver_95 : decode cX7_deliver 95 = .ok (.iload_n 1, 1) := by decide +kernel
theorem dX7_deliver_96 : decode cX7_deliver 96 = .ok (.invokevirtual 62, 3) := by decide +kernel
theorem dX7_deliver_99 : decode cX7_deliver 99 = .ok (.checkcast 38, 3) := by decide +kernel
theorem dX7_deliver_102 : decode cX7_deliver 102 = .ok (.getfield 41, 3) := by decide +kernel
theorem dX7_deliver_105 : decode cX7_deliver 105 = .ok (.iload 7, 2) := by decide +kernel
theorem dX7_deliver_107 : decode cX7_deliver 107 = .ok (.bipush 10, 2) := by decide +kernel
theorem dX7_deliver_109 : decode cX7_deliver 109 = .ok (.idiv, 1) := by decide +kernel
theorem dX7_deliver_110 : decode cX7_deliver 110 = .ok (.iaload, 1) := by decide +kernel
theorem dX7_deliver_111 : decode cX7_deliver 111 = .ok (.iload 5, 2) := by decide +kernel
theorem dX7_deliver_113 : decode cX7_deliver 113 = .ok (.isub, 1) := by decide +kernel
theorem dX7_deliver_114 : decode cX7_deliver 114 = .ok (.invokestatic 51, 3) := by decide +kernel
theorem dX7_deliver_117 : decode cX7_deliver 117 = .ok (.iadd, 1) := by decide +kernel
theorem dX7_deliver_118 : decode cX7_deliver 118 = .ok (.istore 6, 2) := by decide +kernel
theorem dX7_deliver_120 : decode cX7_deliver 120 = .ok (.iinc 7 1, 3) := by decide +kernel
theorem dX7_deliver_123 : decode cX7_deliver 123 = .ok (.goto (-41), 3) := by decide +kernel
theorem dX7_deliver_126 : decode cX7_deliver 126 = .ok (.iload 6, 2) := by decide +kernel
theorem dX7_deliver_128 : decode cX7_deliver 128 = .ok (.ireturn, 1) := by decide +kernel
set_option maxRecDepth 20000 in
theorem ggX7_make_X7_isNoTube : GoodIn wsX7_make wsX7_isNoTube := goodIn_r _ [12, 2, 13, 14, 15, 16, 17, 18, 19, 20, 11, 21, 129, 130, 131, 132, 133, 134, 135, 155, 156, 157] (by decide +kernel) (by decide +kernel)
set_option maxRecDepth 20000 in
theorem gX7_make_X7_isNoTube : GoodIn wsX7_make (wsV RX7 58 RX7 yX7_isNoTube wsX7_isNoTube) := goodIn_app (goodIn_of _ (by decide +kernel)) ggX7_make_X7_isNoTube
set_option maxRecDepth 20000 in
theorem ggX7_make_X7_isThrown : GoodIn wsX7_make wsX7_isThrown := goodIn_r _ [25, 26, 129, 130, 131, 132, 133, 134, 135] (by decide +kernel) (by decide +kernel)
set_option maxRecDepth 20000 in
theorem gX7_make_X7_isThrown : GoodIn wsX7_make (wsV RX7 30 RX7 yX7_isThrown wsX7_isThrown) := goodIn_app (goodIn_of _ (by decide +kernel)) ggX7_make_X7_isThrown
set_option maxRecDepth 20000 in
theorem ggX7_make_X7_isIn : GoodIn wsX7_make wsX7_isIn := goodIn_r _ [21] (by decide +kernel) (by decide +kernel)
set_option maxRecDepth 20000 in
theorem gX7_make_X7_isIn : GoodIn wsX7_make (va_wsS RX7 26 yX7_isIn wsX7_isIn) := goodIn_app (goodIn_of _ (by decide +kernel)) ggX7_make_X7_isIn
set_option maxRecDepth 20000 in
theorem ggX7_make_Jx4a65c_get_915e3 : GoodIn wsX7_make wsJx4a65c_get_915e3 := goodIn_r _ [30, 18, 31, 32, 33, 34, 35, 36, 37, 38, 39, 40, 41, 16, 42, 43, 155, 156, 157] (by decide +kernel) (by decide +kernel)
set_option maxRecDepth 20000 in
theorem gX7_make_Jx4a65c_get_915e3 : GoodIn wsX7_make (wsV RX7 62 RJx4a65c yJx4a65c_get_915e3 wsJx4a65c_get_915e3) := goodIn_app (goodIn_of _ (by decide +kernel)) ggX7_make_Jx4a65c_get_915e3
set_option maxRecDepth 20000 in
theorem ggX7_make_Jx4a65c_size_8abf5 : GoodIn wsX7_make wsJx4a65c_size_8abf5 := goodIn_r _ [17, 18, 155, 156, 157] (by decide +kernel) (by decide +kernel)
set_option maxRecDepth 20000 in
theorem gX7_make_Jx4a65c_size_8abf5 : GoodIn wsX7_make (wsV RX7 34 RJx4a65c yJx4a65c_size_8abf5 wsJx4a65c_size_8abf5) := goodIn_app (goodIn_of _ (by decide +kernel)) ggX7_make_Jx4a65c_size_8abf5
set_option maxRecDepth 20000 in
theorem ggX7_make_X5_init : GoodIn wsX7_make wsX5_init := goodIn_r _ [46, 47, 48, 49, 50, 51, 52, 53, 54, 55, 56, 57, 16, 58, 59, 60, 61, 62, 63, 64, 65, 66, 43, 67, 68, 69, 70, 71, 72, 73, 74, 75, 76, 138, 139, 140, 141, 142, 143, 144, 145, 146, 147, 148, 149, 150, 151, 152, 153, 154, 155, 156, 157] (by decide +kernel) (by decide +kernel)
set_option maxRecDepth 20000 in
theorem gX7_make_X5_init : GoodIn wsX7_make (wsX5_init) := ggX7_make_X5_init
set_option maxRecDepth 20000 in
theorem ggX7_make_Jx4a65c_add_9ea2d : GoodIn wsX7_make wsJx4a65c_add_9ea2d := goodIn_r _ [80, 81, 82, 43, 18, 83, 84, 85, 16, 86, 87, 88, 89, 90, 91, 92, 93, 94, 66, 95, 96, 97, 98, 99, 100, 101, 102, 103, 104, 105, 106, 107, 108, 109, 110, 111, 112, 113, 114, 115, 116, 117, 118, 119, 120, 121, 122, 123, 124, 125, 126, 127, 128, 155, 156, 157] (by decide +kernel) (by decide +kernel)
set_option maxRecDepth 20000 in
theorem gX7_make_Jx4a65c_add_9ea2d : GoodIn wsX7_make (wsV RX7 54 RJx4a65c yJx4a65c_add_9ea2d wsJx4a65c_add_9ea2d) := goodIn_app (goodIn_of _ (by decide +kernel)) ggX7_make_Jx4a65c_add_9ea2d
theorem dX7_make_0 : decode cX7_make 0 = .ok (.aload_n 0, 1) := by decide +kernel
theorem dX7_make_1 : decode cX7_make 1 = .ok (.aload_n 0, 1) := by decide +kernel
theorem dX7_make_2 : decode cX7_make 2 = .ok (.iload_n 1, 1) := by decide +kernel
theorem dX7_make_3 : decode cX7_make 3 = .ok (.invokevirtual 58, 3) := by decide +kernel
theorem dX7_make_6 : decode cX7_make 6 = .ok (.iconst 1, 1) := by decide +kernel
theorem dX7_make_7 : decode cX7_make 7 = .ok (.invokevirtual 30, 3) := by decide +kernel
theorem dX7_make_10 : decode cX7_make 10 = .ok (.ifCond .ne 87, 3) := by decide +kernel
theorem dX7_make_13 : decode cX7_make 13 = .ok (.aload_n 0, 1) := by decide +kernel
theorem dX7_make_14 : decode cX7_make 14 = .ok (.iload_n 2, 1) := by decide +kernel
theorem dX7_make_15 : decode cX7_make 15 = .ok (.sipush 1000, 3) := by decide +kernel
theorem dX7_make_18 : decode cX7_make 18 = .ok (.ldc 78, 2) := by decide +kernel
theorem dX7_make_20 : decode cX7_make 20 = .ok (.invokestatic 26, 3) := by decide +kernel
theorem dX7_make_23 : decode cX7_make 23 = .ok (.ifCond .eq 15, 3) := by decide +kernel
theorem dX7_make_26 : decode cX7_make 26 = .ok (.iload_n 3, 1) := by decide +kernel
theorem dX7_make_27 : decode cX7_make 27 = .ok (.bipush 104, 2) := by decide +kernel
theorem dX7_make_29 : decode cX7_make 29 = .ok (.if_icmp .eq 13, 3) := by decide +kernel
theorem dX7_make_32 : decode cX7_make 32 = .ok (.iload_n 3, 1) := by decide +kernel
theorem dX7_make_33 : decode cX7_make 33 = .ok (.bipush 115, 2) := by decide +kernel
theorem dX7_make_35 : decode cX7_make 35 = .ok (.if_icmp .eq 7, 3) := by decide +kernel
theorem dX7_make_38 : decode cX7_make 38 = .ok (.iconst 1, 1) := by decide +kernel
theorem dX7_make_39 : decode cX7_make 39 = .ok (.goto 4, 3) := by decide +kernel
theorem dX7_make_42 : decode cX7_make 42 = .ok (.iconst 0, 1) := by decide +kernel
theorem dX7_make_43 : decode cX7_make 43 = .ok (.iconst 2, 1) := by decide +kernel
theorem dX7_make_44 : decode cX7_make 44 = .ok (.invokevirtual 30, 3) := by decide +kernel
theorem dX7_make_47 : decode cX7_make 47 = .ok (.ifCond .ne 50, 3) := by decide +kernel
theorem dX7_make_50 : decode cX7_make 50 = .ok (.aload_n 0, 1) := by decide +kernel
theorem dX7_make_51 : decode cX7_make 51 = .ok (.aload_n 0, 1) := by decide +kernel
theorem dX7_make_52 : decode cX7_make 52 = .ok (.getfield 10, 3) := by decide +kernel
theorem dX7_make_55 : decode cX7_make 55 = .ok (.iload_n 1, 1) := by decide +kernel
theorem dX7_make_56 : decode cX7_make 56 = .ok (.invokevirtual 62, 3) := by decide +kernel
theorem dX7_make_59 : decode cX7_make 59 = .ok (.checkcast 38, 3) := by decide +kernel
theorem dX7_make_62 : decode cX7_make 62 = .ok (.getfield 66, 3) := by decide +kernel
theorem dX7_make_65 : decode cX7_make 65 = .ok (.iconst 3, 1) := by decide +kernel
theorem dX7_make_66 : decode cX7_make 66 = .ok (.invokevirtual 30, 3) := by decide +kernel
theorem dX7_make_69 : decode cX7_make 69 = .ok (.ifCond .ne 28, 3) := by decide +kernel
theorem dX7_make_72 : decode cX7_make 72 = .ok (.aload_n 0, 1) := by decide +kernel
theorem dX7_make_73 : decode cX7_make 73 = .ok (.aload_n 0, 1) := by decide +kernel
theorem dX7_make_74 : decode cX7_make 74 = .ok (.getfield 16, 3) := by decide +kernel
theorem dX7_make_77 : decode cX7_make 77 = .ok (.invokevirtual 34, 3) := by decide +kernel
theorem dX7_make_80 : decode cX7_make 80 = .ok (.bipush 6, 2) := by decide +kernel
theorem dX7_make_82 : decode cX7_make 82 = .ok (.if_icmp .ne 7, 3) := by decide +kernel
theorem dX7_make_85 : decode cX7_make 85 = .ok (.iconst 1, 1) := by decide +kernel
theorem dX7_make_86 : decode cX7_make 86 = .ok (.goto 4, 3) := by decide +kernel
theorem dX7_make_89 : decode cX7_make 89 = .ok (.iconst 0, 1) := by decide +kernel
theorem dX7_make_90 : decode cX7_make 90 = .ok (.iconst 4, 1) := by decide +kernel
theorem dX7_make_91 : decode cX7_make 91 = .ok (.invokevirtual 30, 3) := by decide +kernel
theorem dX7_make_94 : decode cX7_make 94 = .ok (.ifCond .eq 5, 3) := by decide +kernel
theorem dX7_make_97 : decode cX7_make 97 = .ok (.iconst 0, 1) := by decide +kernel
theorem dX7_make_98 : decode cX7_make 98 = .ok (.ireturn, 1) := by decide +kernel
theorem dX7_make_99 : decode cX7_make 99 = .ok (.aload_n 0, 1) := by decide +kernel
theorem dX7_make_100 : decode cX7_make 100 = .ok (.getfield 10, 3) := by decide +kernel
theorem dX7_make_103 : decode cX7_make 103 = .ok (.iload_n 1, 1) := by decide +kernel
theorem dX7_make_104 : decode cX7_make 104 = .ok (.invokevirtual 62, 3) := by decide +kernel
theorem dX7_make_107 : decode cX7_make 107 = .ok (.checkcast 38, 3) := by decide +kernel
theorem dX7_make_110 : decode cX7_make 110 = .ok (.iconst 1, 1) := by decide +kernel
theorem dX7_make_111 : decode cX7_make 111 = .ok (.putfield 66, 3) := by decide +kernel
theorem dX7_make_114 : decode cX7_make 114 = .ok (.aload_n 0, 1) := by decide +kernel
theorem dX7_make_115 : decode cX7_make 115 = .ok (.getfield 16, 3) := by decide +kernel
theorem dX7_make_118 : decode cX7_make 118 = .ok (.new 79, 3) := by decide +kernel
theorem dX7_make_121 : decode cX7_make 121 = .ok (.dup, 1) := by decide +kernel
theorem dX7_make_122 : decode cX7_make 122 = .ok (.aload_n 0, 1) := by decide +kernel
theorem dX7_make_123 : decode cX7_make 123 = .ok (.getfield 10, 3) := by decide +kernel
theorem dX7_make_126 : decode cX7_make 126 = .ok (.iload_n 1, 1) := by decide +kernel
theorem dX7_make_127 : decode cX7_make 127 = .ok (.invokevirtual 62, 3) := by decide +kernel
theorem dX7_make_130 : decode cX7_make 130 = .ok (.checkcast 38, 3) := by decide +kernel
theorem dX7_make_133 : decode cX7_make 133 = .ok (.iload_n 2, 1) := by decide +kernel
theorem dX7_make_134 : decode cX7_make 134 = .ok (.iload_n 3, 1) := by decide +kernel
theorem dX7_make_135 : decode cX7_make 135 = .ok (.bipush 115, 2) := by decide +kernel
theorem dX7_make_137 : decode cX7_make 137 = .ok (.if_icmp .ne 7, 3) := by decide +kernel
theorem dX7_make_140 : decode cX7_make 140 = .ok (.iconst 1, 1) := by decide +kernel
theorem dX7_make_141 : decode cX7_make 141 = .ok (.goto 4, 3) := by decide +kernel
theorem dX7_make_144 : decode cX7_make 144 = .ok (.iconst 0, 1) := by decide +kernel
theorem dX7_make_145 : decode cX7_make 145 = .ok (.invokespecial 81, 3) := by decide +kernel
theorem dX7_make_148 : decode cX7_make 148 = .ok (.invokevirtual 54, 3) := by decide +kernel
theorem dX7_make_151 : decode cX7_make 151 = .ok (.pop, 1) := by decide +kernel
theorem dX7_make_152 : decode cX7_make 152 = .ok (.aload_n 0, 1) := by decide +kernel
theorem dX7_make_153 : decode cX7_make 153 = .ok (.getfield 16, 3) := by decide +kernel
theorem dX7_make_156 : decode cX7_make 156 = .ok (.invokevirtual 34, 3) := by decide +kernel
theorem dX7_make_159 : decode cX7_make 159 = .ok (.iconst 1, 1) := by decide +kernel
theorem dX7_make_160 : decode cX7_make 160 = .ok (.isub, 1) := by decide +kernel
theorem dX7_make_161 : decode cX7_make 161 = .ok (.ireturn, 1) := by decide +kernel
set_option maxRecDepth 20000 in
theorem ggX7_isNone_Jx4a65c_size_8abf5 : GoodIn wsX7_isNone wsJx4a65c_size_8abf5 := goodIn_r _ [6, 7, 19, 20, 21] (by decide +kernel) (by decide +kernel)
set_option maxRecDepth 20000 in
theorem gX7_isNone_Jx4a65c_size_8abf5 : GoodIn wsX7_isNone (wsV RX7 34 RJx4a65c yJx4a65c_size_8abf5 wsJx4a65c_size_8abf5) := goodIn_app (goodIn_of _ (by decide +kernel)) ggX7_isNone_Jx4a65c_size_8abf5
set_option maxRecDepth 20000 in
theorem ggX7_isNone_X7_isIn : GoodIn wsX7_isNone wsX7_isIn := goodIn_r _ [11] (by decide +kernel) (by decide +kernel)
set_option maxRecDepth 20000 in
theorem gX7_isNone_X7_isIn : GoodIn wsX7_isNone (va_wsS RX7 26 yX7_isIn wsX7_isIn) := goodIn_app (goodIn_of _ (by decide +kernel)) ggX7_isNone_X7_isIn
theorem dX7_isNone_0 : decode cX7_isNone 0 = .ok (.iload_n 1, 1) := by decide +kernel
theorem dX7_isNone_1 : decode cX7_isNone 1 = .ok (.iconst 0, 1) := by decide +kernel
theorem dX7_isNone_2 : decode cX7_isNone 2 = .ok (.aload_n 0, 1) := by decide +kernel
theorem dX7_isNone_3 : decode cX7_isNone 3 = .ok (.getfield 16, 3) := by decide +kernel
theorem dX7_isNone_6 : decode cX7_isNone 6 = .ok (.invokevirtual 34, 3) := by decide +kernel
theorem dX7_isNone_9 : decode cX7_isNone 9 = .ok (.iconst 1, 1) := by decide +kernel
theorem dX7_isNone_10 : decode cX7_isNone 10 = .ok (.isub, 1) := by decide +kernel
theorem dX7_isNone_11 : decode cX7_isNone 11 = .ok (.invokestatic 26, 3) := by decide +kernel
theorem dX7_isNone_14 : decode cX7_isNone 14 = .ok (.ifCond .ne 7, 3) := by decide +kernel
theorem dX7_isNone_17 : decode cX7_isNone 17 = .ok (.iconst 1, 1) := by decide +kernel
theorem dX7_isNone_18 : decode cX7_isNone 18 = .ok (.goto 4, 3) := by decide +kernel
theorem dX7_isNone_21 : decode cX7_isNone 21 = .ok (.iconst 0, 1) := by decide +kernel
theorem dX7_isNone_22 : decode cX7_isNone 22 = .ok (.ireturn, 1) := by decide +kernel
set_option maxRecDepth 20000 in
theorem ggX7_buy_X7_isIn : GoodIn wsX7_buy wsX7_isIn := goodIn_r _ [6] (by decide +kernel) (by decide +kernel)
set_option maxRecDepth 20000 in
theorem gX7_buy_X7_isIn : GoodIn wsX7_buy (va_wsS RX7 26 yX7_isIn wsX7_isIn) := goodIn_app (goodIn_of _ (by decide +kernel)) ggX7_buy_X7_isIn
set_option maxRecDepth 20000 in
theorem ggX7_buy_X7_isThrown : GoodIn wsX7_buy wsX7_isThrown := goodIn_r _ [10, 11, 12, 13, 14, 15, 16, 17, 18] (by decide +kernel) (by decide +kernel)
set_option maxRecDepth 20000 in
theorem gX7_buy_X7_isThrown : GoodIn wsX7_buy (wsV RX7 30 RX7 yX7_isThrown wsX7_isThrown) := goodIn_app (goodIn_of _ (by decide +kernel)) ggX7_buy_X7_isThrown
theorem dX7_buy_0 : decode cX7_buy 0 = .ok (.aload_n 0, 1) := by decide +kernel
theorem dX7_buy_1 : decode cX7_buy 1 = .ok (.iload_n 1, 1) := by decide +kernel
theorem dX7_buy_2 : decode cX7_buy 2 = .ok (.iconst 1, 1) := by decide +kernel
theorem dX7_buy_3 : decode cX7_buy 3 = .ok (.ldc 77, 2) := by decide +kernel
theorem dX7_buy_5 : decode cX7_buy 5 = .ok (.invokestatic 26, 3) := by decide +kernel
theorem dX7_buy_8 : decode cX7_buy 8 = .ok (.ifCond .ne 7, 3) := by decide +kernel
theorem dX7_buy_11 : decode cX7_buy 11 = .ok (.iconst 1, 1) := by decide +kernel
theorem dX7_buy_12 : decode cX7_buy 12 = .ok (.goto 4, 3) := by decide +kernel
theorem dX7_buy_15 : decode cX7_buy 15 = .ok (.iconst 0, 1) := by decide +kernel
theorem dX7_buy_16 : decode cX7_buy 16 = .ok (.iconst 1, 1) := by decide +kernel
theorem dX7_buy_17 : decode cX7_buy 17 = .ok (.invokevirtual 30, 3) := by decide +kernel
theorem dX7_buy_20 : decode cX7_buy 20 = .ok (.ifCond .eq 5, 3) := by decide +kernel
theorem dX7_buy_23 : decode cX7_buy 23 = .ok (.iconst 0, 1) := by decide +kernel
theorem dX7_buy_24 : decode cX7_buy 24 = .ok (.ireturn, 1) := by decide +kernel
theorem dX7_buy_25 : decode cX7_buy 25 = .ok (.aload_n 0, 1) := by decide +kernel
theorem dX7_buy_26 : decode cX7_buy 26 = .ok (.dup, 1) := by decide +kernel
theorem dX7_buy_27 : decode cX7_buy 27 = .ok (.getfield 84, 3) := by decide +kernel
theorem dX7_buy_30 : decode cX7_buy 30 = .ok (.iload_n 1, 1) := by decide +kernel
theorem dX7_buy_31 : decode cX7_buy 31 = .ok (.iadd, 1) := by decide +kernel
theorem dX7_buy_32 : decode cX7_buy 32 = .ok (.putfield 84, 3) := by decide +kernel
theorem dX7_buy_35 : decode cX7_buy 35 = .ok (.aload_n 0, 1) := by decide +kernel
theorem dX7_buy_36 : decode cX7_buy 36 = .ok (.getfield 84, 3) := by decide +kernel
theorem dX7_buy_39 : decode cX7_buy 39 = .ok (.ireturn, 1) := by decide +kernel
set_option maxRecDepth 20000 in
theorem ggX7_fill_X7_isNone : GoodIn wsX7_fill wsX7_isNone := goodIn_r _ [8, 1, 9, 10, 11, 12, 13, 14, 15, 16, 7, 17, 49, 50, 51, 52, 53, 54, 55, 73, 74, 75] (by decide +kernel) (by decide +kernel)
set_option maxRecDepth 20000 in
theorem gX7_fill_X7_isNone : GoodIn wsX7_fill (wsV RX7 87 RX7 yX7_isNone wsX7_isNone) := goodIn_app (goodIn_of _ (by decide +kernel)) ggX7_fill_X7_isNone
set_option maxRecDepth 20000 in
theorem ggX7_fill_X7_isThrown : GoodIn wsX7_fill wsX7_isThrown := goodIn_r _ [21, 22, 49, 50, 51, 52, 53, 54, 55] (by decide +kernel) (by decide +kernel)
set_option maxRecDepth 20000 in
theorem gX7_fill_X7_isThrown : GoodIn wsX7_fill (wsV RX7 30 RX7 yX7_isThrown wsX7_isThrown) := goodIn_app (goodIn_of _ (by decide +kernel)) ggX7_fill_X7_isThrown
set_option maxRecDepth 20000 in
theorem ggX7_fill_X7_isNoPlace : GoodIn wsX7_fill wsX7_isNoPlace := goodIn_r _ [25, 15, 16, 7, 17] (by decide +kernel) (by decide +kernel)
set_option maxRecDepth 20000 in
theorem gX7_fill_X7_isNoPlace : GoodIn wsX7_fill (va_wsS RX7 70 yX7_isNoPlace wsX7_isNoPlace) := goodIn_app (goodIn_of _ (by decide +kernel)) ggX7_fill_X7_isNoPlace
set_option maxRecDepth 20000 in
theorem ggX7_fill_Jx4a65c_get_915e3 : GoodIn wsX7_fill wsJx4a65c_get_915e3 := goodIn_r _ [29, 14, 30, 31, 32, 33, 34, 35, 36, 37, 38, 39, 40, 12, 41, 42, 73, 74, 75] (by decide +kernel) (by decide +kernel)
set_option maxRecDepth 20000 in
theorem gX7_fill_Jx4a65c_get_915e3 : GoodIn wsX7_fill (wsV RX7 62 RJx4a65c yJx4a65c_get_915e3 wsJx4a65c_get_915e3) := goodIn_app (goodIn_of _ (by decide +kernel)) ggX7_fill_Jx4a65c_get_915e3
set_option maxRecDepth 20000 in
theorem ggX7_fill_X6_volume : GoodIn wsX7_fill wsX6_volume := goodIn_r _ [47, 48, 76, 77] (by decide +kernel) (by decide +kernel)
set_option maxRecDepth 20000 in
theorem gX7_fill_X6_volume : GoodIn wsX7_fill (wsV RX7 73 RX6 yX6_volume wsX6_volume) := goodIn_app (goodIn_of _ (by decide +kernel)) ggX7_fill_X6_volume
theorem dX7_fill_0 : decode cX7_fill 0 = .ok (.aload_n 0, 1) := by decide +kernel
theorem dX7_fill_1 : decode cX7_fill 1 = .ok (.aload_n 0, 1) := by decide +kernel
theorem dX7_fill_2 : decode cX7_fill 2 = .ok (.iload_n 1, 1) := by decide +kernel
theorem dX7_fill_3 : decode cX7_fill 3 = .ok (.invokevirtual 87, 3) := by decide +kernel
theorem dX7_fill_6 : decode cX7_fill 6 = .ok (.iconst 1, 1) := by decide +kernel
theorem dX7_fill_7 : decode cX7_fill 7 = .ok (.invokevirtual 30, 3) := by decide +kernel
theorem dX7_fill_10 : decode cX7_fill 10 = .ok (.ifCond .ne 35, 3) := by decide +kernel
theorem dX7_fill_13 : decode cX7_fill 13 = .ok (.aload_n 0, 1) := by decide +kernel
theorem dX7_fill_14 : decode cX7_fill 14 = .ok (.iload_n 2, 1) := by decide +kernel
theorem dX7_fill_15 : decode cX7_fill 15 = .ok (.bipush 109, 2) := by decide +kernel
theorem dX7_fill_17 : decode cX7_fill 17 = .ok (.if_icmp .eq 9, 3) := by decide +kernel
theorem dX7_fill_20 : decode cX7_fill 20 = .ok (.iload_n 2, 1) := by decide +kernel
theorem dX7_fill_21 : decode cX7_fill 21 = .ok (.bipush 115, 2) := by decide +kernel
theorem dX7_fill_23 : decode cX7_fill 23 = .ok (.if_icmp .ne 10, 3) := by decide +kernel
theorem dX7_fill_26 : decode cX7_fill 26 = .ok (.iload_n 3, 1) := by decide +kernel
theorem dX7_fill_27 : decode cX7_fill 27 = .ok (.invokestatic 70, 3) := by decide +kernel
theorem dX7_fill_30 : decode cX7_fill 30 = .ok (.ifCond .eq 7, 3) := by decide +kernel
theorem dX7_fill_33 : decode cX7_fill 33 = .ok (.iconst 1, 1) := by decide +kernel
theorem dX7_fill_34 : decode cX7_fill 34 = .ok (.goto 4, 3) := by decide +kernel
theorem dX7_fill_37 : decode cX7_fill 37 = .ok (.iconst 0, 1) := by decide +kernel
theorem dX7_fill_38 : decode cX7_fill 38 = .ok (.iconst 2, 1) := by decide +kernel
theorem dX7_fill_39 : decode cX7_fill 39 = .ok (.invokevirtual 30, 3) := by decide +kernel
theorem dX7_fill_42 : decode cX7_fill 42 = .ok (.ifCond .eq 5, 3) := by decide +kernel
theorem dX7_fill_45 : decode cX7_fill 45 = .ok (.iconst 0, 1) := by decide +kernel
theorem dX7_fill_46 : decode cX7_fill 46 = .ok (.ireturn, 1) := by decide +kernel
theorem dX7_fill_47 : decode cX7_fill 47 = .ok (.aload_n 0, 1) := by decide +kernel
theorem dX7_fill_48 : decode cX7_fill 48 = .ok (.getfield 16, 3) := by decide +kernel
theorem dX7_fill_51 : decode cX7_fill 51 = .ok (.iload_n 1, 1) := by decide +kernel
theorem dX7_fill_52 : decode cX7_fill 52 = .ok (.invokevirtual 62, 3) := by decide +kernel
theorem dX7_fill_55 : decode cX7_fill 55 = .ok (.checkcast 79, 3) := by decide +kernel
theorem dX7_fill_58 : decode cX7_fill 58 = .ok (.astore 4, 2) := by decide +kernel
theorem dX7_fill_60 : decode cX7_fill 60 = .ok (.aload 4, 2) := by decide +kernel
theorem dX7_fill_62 : decode cX7_fill 62 = .ok (.getfield 90, 3) := by decide +kernel
theorem dX7_fill_65 : decode cX7_fill 65 = .ok (.aload 4, 2) := by decide +kernel
theorem dX7_fill_67 : decode cX7_fill 67 = .ok (.getfield 93, 3) := by decide +kernel
theorem dX7_fill_70 : decode cX7_fill 70 = .ok (.isub, 1) := by decide +kernel
theorem dX7_fill_71 : decode cX7_fill 71 = .ok (.aload 4, 2) := by decide +kernel
theorem dX7_fill_73 : decode cX7_fill 73 = .ok (.getfield 96, 3) := by decide +kernel
theorem dX7_fill_76 : decode cX7_fill 76 = .ok (.iload_n 3, 1) := by decide +kernel
theorem dX7_fill_77 : decode cX7_fill 77 = .ok (.invokevirtual 73, 3) := by decide +kernel
theorem dX7_fill_80 : decode cX7_fill 80 = .ok (.iadd, 1) := by decide +kernel
theorem dX7_fill_81 : decode cX7_fill 81 = .ok (.istore 5, 2) := by decide +kernel
theorem dX7_fill_83 : decode cX7_fill 83 = .ok (.aload_n 0, 1) := by decide +kernel
theorem dX7_fill_84 : decode cX7_fill 84 = .ok (.aload 4, 2) := by decide +kernel
theorem dX7_fill_86 : decode cX7_fill 86 = .ok (.getfield 100, 3) := by decide +kernel
theorem dX7_fill_89 : decode cX7_fill 89 = .ok (.bipush 32, 2) := by decide +kernel
theorem dX7_fill_91 : decode cX7_fill 91 = .ok (.if_icmp .ne 26, 3) := by decide +kernel
theorem dX7_fill_94 : decode cX7_fill 94 = .ok (.aload 4, 2) := by decide +kernel
theorem dX7_fill_96 : decode cX7_fill 96 = .ok (.getfield 104, 3) := by decide +kernel
theorem dX7_fill_99 : decode cX7_fill 99 = .ok (.ifCond .ne 18, 3) := by decide +kernel
theorem dX7_fill_102 : decode cX7_fill 102 = .ok (.iload_n 2, 1) := by decide +kernel
theorem dX7_fill_103 : decode cX7_fill 103 = .ok (.bipush 109, 2) := by decide +kernel
theorem dX7_fill_105 : decode cX7_fill 105 = .ok (.if_icmp .ne 16, 3) := by decide +kernel
theorem dX7_fill_108 : decode cX7_fill 108 = .ok (.aload_n 0, 1) := by decide +kernel
theorem dX7_fill_109 : decode cX7_fill 109 = .ok (.getfield 84, 3) := by decide +kernel
theorem dX7_fill_112 : decode cX7_fill 112 = .ok (.iload 5, 2) := by decide +kernel
theorem dX7_fill_114 : decode cX7_fill 114 = .ok (.if_icmp .ge 7, 3) := by decide +kernel
theorem dX7_fill_117 : decode cX7_fill 117 = .ok (.iconst 1, 1) := by decide +kernel
theorem dX7_fill_118 : decode cX7_fill 118 = .ok (.goto 4, 3) := by decide +kernel
theorem dX7_fill_121 : decode cX7_fill 121 = .ok (.iconst 0, 1) := by decide +kernel
theorem dX7_fill_122 : decode cX7_fill 122 = .ok (.iconst 3, 1) := by decide +kernel
theorem dX7_fill_123 : decode cX7_fill 123 = .ok (.invokevirtual 30, 3) := by decide +kernel
theorem dX7_fill_126 : decode cX7_fill 126 = .ok (.ifCond .eq 5, 3) := by decide +kernel
theorem dX7_fill_129 : decode cX7_fill 129 = .ok (.iconst 0, 1) := by decide +kernel
theorem dX7_fill_130 : decode cX7_fill 130 = .ok (.ireturn, 1) := by decide +kernel
theorem dX7_fill_131 : decode cX7_fill 131 = .ok (.aload_n 0, 1) := by decide +kernel
theorem dX7_fill_132 : decode cX7_fill 132 = .ok (.dup, 1) := by decide +kernel
theorem dX7_fill_133 : decode cX7_fill 133 = .ok (.getfield 84, 3) := by decide +kernel
theorem dX7_fill_136 : decode cX7_fill 136 = .ok (.iload_n 2, 1) := by decide +kernel
theorem dX7_fill_137 : decode cX7_fill 137 = .ok (.bipush 109, 2) := by decide +kernel
theorem dX7_fill_139 : decode cX7_fill 139 = .ok (.if_icmp .ne 8, 3) := by decide +kernel
theorem dX7_fill_142 : decode cX7_fill 142 = .ok (.iload 5, 2) := by decide +kernel
theorem dX7_fill_144 : decode cX7_fill 144 = .ok (.goto 4, 3) := by decide +kernel
theorem dX7_fill_147 : decode cX7_fill 147 = .ok (.iconst 0, 1) := by decide +kernel
theorem dX7_fill_148 : decode cX7_fill 148 = .ok (.isub, 1) := by decide +kernel
theorem dX7_fill_149 : decode cX7_fill 149 = .ok (.putfield 84, 3) := by decide +kernel
theorem dX7_fill_152 : decode cX7_fill 152 = .ok (.aload 4, 2) := by decide +kernel
theorem dX7_fill_154 : decode cX7_fill 154 = .ok (.iload_n 2, 1) := by decide +kernel
theorem dX7_fill_155 : decode cX7_fill 155 = .ok (.putfield 100, 3) := by decide +kernel
theorem dX7_fill_158 : decode cX7_fill 158 = .ok (.aload 4, 2) := by decide +kernel
theorem dX7_fill_160 : decode cX7_fill 160 = .ok (.iload 5, 2) := by decide +kernel
theorem dX7_fill_162 : decode cX7_fill 162 = .ok (.putfield 107, 3) := by decide +kernel
theorem dX7_fill_165 : decode cX7_fill 165 = .ok (.iload 5, 2) := by decide +kernel
theorem dX7_fill_167 : decode cX7_fill 167 = .ok (.ireturn, 1) := by decide +kernel
set_option maxRecDepth 20000 in
theorem ggX7_smash_X7_isNone : GoodIn wsX7_smash wsX7_isNone := goodIn_r _ [8, 1, 9, 10, 11, 12, 13, 14, 15, 16, 7, 17, 40, 41, 42, 43, 44, 45, 46, 64, 65, 66] (by decide +kernel) (by decide +kernel)
set_option maxRecDepth 20000 in
theorem gX7_smash_X7_isNone : GoodIn wsX7_smash (wsV RX7 87 RX7 yX7_isNone wsX7_isNone) := goodIn_app (goodIn_of _ (by decide +kernel)) ggX7_smash_X7_isNone
set_option maxRecDepth 20000 in
theorem ggX7_smash_X7_isThrown : GoodIn wsX7_smash wsX7_isThrown := goodIn_r _ [21, 22, 40, 41, 42, 43, 44, 45, 46] (by decide +kernel) (by decide +kernel)
set_option maxRecDepth 20000 in
theorem gX7_smash_X7_isThrown : GoodIn wsX7_smash (wsV RX7 30 RX7 yX7_isThrown wsX7_isThrown) := goodIn_app (goodIn_of _ (by decide +kernel)) ggX7_smash_X7_isThrown
set_option maxRecDepth 20000 in
theorem ggX7_smash_Jx4a65c_get_915e3 : GoodIn wsX7_smash wsJx4a65c_get_915e3 := goodIn_r _ [26, 14, 27, 28, 29, 30, 31, 32, 33, 34, 35, 36, 37, 12, 38, 39, 64, 65, 66] (by decide +kernel) (by decide +kernel)
set_option maxRecDepth 20000 in
theorem gX7_smash_Jx4a65c_get_915e3 : GoodIn wsX7_smash (wsV RX7 62 RJx4a65c yJx4a65c_get_915e3 wsJx4a65c_get_915e3) := goodIn_app (goodIn_of _ (by decide +kernel)) ggX7_smash_Jx4a65c_get_915e3
theorem dX7_smash_0 : decode cX7_smash 0 = .ok (.aload_n 0, 1) := by decide +kernel
theorem dX7_smash_1 : decode cX7_smash 1 = .ok (.aload_n 0, 1) := by decide +kernel
theorem dX7_smash_2 : decode cX7_smash 2 = .ok (.iload_n 1, 1) := by decide +kernel
theorem dX7_smash_3 : decode cX7_smash 3 = .ok (.invokevirtual 87, 3) := by decide +kernel
theorem dX7_smash_6 : decode cX7_smash 6 = .ok (.iconst 1, 1) := by decide +kernel
theorem dX7_smash_7 : decode cX7_smash 7 = .ok (.invokevirtual 30, 3) := by decide +kernel
theorem dX7_smash_10 : decode cX7_smash 10 = .ok (.ifCond .ne 25, 3) := by decide +kernel
theorem dX7_smash_13 : decode cX7_smash 13 = .ok (.aload_n 0, 1) := by decide +kernel
theorem dX7_smash_14 : decode cX7_smash 14 = .ok (.aload_n 0, 1) := by decide +kernel
theorem dX7_smash_15 : decode cX7_smash 15 = .ok (.getfield 16, 3) := by decide +kernel
theorem dX7_smash_18 : decode cX7_smash 18 = .ok (.iload_n 1, 1) := by decide +kernel
theorem dX7_smash_19 : decode cX7_smash 19 = .ok (.invokevirtual 62, 3) := by decide +kernel
theorem dX7_smash_22 : decode cX7_smash 22 = .ok (.checkcast 79, 3) := by decide +kernel
theorem dX7_smash_25 : decode cX7_smash 25 = .ok (.getfield 104, 3) := by decide +kernel
theorem dX7_smash_28 : decode cX7_smash 28 = .ok (.iconst 2, 1) := by decide +kernel
theorem dX7_smash_29 : decode cX7_smash 29 = .ok (.invokevirtual 30, 3) := by decide +kernel
theorem dX7_smash_32 : decode cX7_smash 32 = .ok (.ifCond .eq 5, 3) := by decide +kernel
theorem dX7_smash_35 : decode cX7_smash 35 = .ok (.iconst 0, 1) := by decide +kernel
theorem dX7_smash_36 : decode cX7_smash 36 = .ok (.ireturn, 1) := by decide +kernel
theorem dX7_smash_37 : decode cX7_smash 37 = .ok (.aload_n 0, 1) := by decide +kernel
theorem dX7_smash_38 : decode cX7_smash 38 = .ok (.getfield 16, 3) := by decide +kernel
theorem dX7_smash_41 : decode cX7_smash 41 = .ok (.iload_n 1, 1) := by decide +kernel
theorem dX7_smash_42 : decode cX7_smash 42 = .ok (.invokevirtual 62, 3) := by decide +kernel
theorem dX7_smash_45 : decode cX7_smash 45 = .ok (.checkcast 79, 3) := by decide +kernel
theorem dX7_smash_48 : decode cX7_smash 48 = .ok (.astore_n 2, 1) := by decide +kernel
theorem dX7_smash_49 : decode cX7_smash 49 = .ok (.aload_n 2, 1) := by decide +kernel
theorem dX7_smash_50 : decode cX7_smash 50 = .ok (.getfield 107, 3) := by decide +kernel
theorem dX7_smash_53 : decode cX7_smash 53 = .ok (.istore_n 3, 1) := by decide +kernel
theorem dX7_smash_54 : decode cX7_smash 54 = .ok (.aload_n 0, 1) := by decide +kernel
theorem dX7_smash_55 : decode cX7_smash 55 = .ok (.dup, 1) := by decide +kernel
theorem dX7_smash_56 : decode cX7_smash 56 = .ok (.getfield 110, 3) := by decide +kernel
theorem dX7_smash_59 : decode cX7_smash 59 = .ok (.aload_n 2, 1) := by decide +kernel
theorem dX7_smash_60 : decode cX7_smash 60 = .ok (.getfield 100, 3) := by decide +kernel
theorem dX7_smash_63 : decode cX7_smash 63 = .ok (.bipush 109, 2) := by decide +kernel
theorem dX7_smash_65 : decode cX7_smash 65 = .ok (.if_icmp .ne 7, 3) := by decide +kernel
theorem dX7_smash_68 : decode cX7_smash 68 = .ok (.iload_n 3, 1) := by decide +kernel
theorem dX7_smash_69 : decode cX7_smash 69 = .ok (.goto 4, 3) := by decide +kernel
theorem dX7_smash_72 : decode cX7_smash 72 = .ok (.iconst 0, 1) := by decide +kernel
theorem dX7_smash_73 : decode cX7_smash 73 = .ok (.iadd, 1) := by decide +kernel
theorem dX7_smash_74 : decode cX7_smash 74 = .ok (.putfield 110, 3) := by decide +kernel
theorem dX7_smash_77 : decode cX7_smash 77 = .ok (.aload_n 2, 1) := by decide +kernel
theorem dX7_smash_78 : decode cX7_smash 78 = .ok (.iconst 0, 1) := by decide +kernel
theorem dX7_smash_79 : decode cX7_smash 79 = .ok (.putfield 107, 3) := by decide +kernel
theorem dX7_smash_82 : decode cX7_smash 82 = .ok (.aload_n 2, 1) := by decide +kernel
theorem dX7_smash_83 : decode cX7_smash 83 = .ok (.iconst 1, 1) := by decide +kernel
theorem dX7_smash_84 : decode cX7_smash 84 = .ok (.putfield 104, 3) := by decide +kernel
theorem dX7_smash_87 : decode cX7_smash 87 = .ok (.aload_n 2, 1) := by decide +kernel
theorem dX7_smash_88 : decode cX7_smash 88 = .ok (.iconst (-1), 1) := by decide +kernel
theorem dX7_smash_89 : decode cX7_smash 89 = .ok (.putfield 113, 3) := by decide +kernel
theorem dX7_smash_92 : decode cX7_smash 92 = .ok (.iload_n 3, 1) := by decide +kernel
theorem dX7_smash_93 : decode cX7_smash 93 = .ok (.ireturn, 1) := by decide +kernel
set_option maxRecDepth 20000 in
theorem ggX7_inside_X7_isNone : GoodIn wsX7_inside wsX7_isNone := goodIn_r _ [7, 1, 8, 9, 10, 11, 12, 13, 14, 15, 6, 16, 39, 40, 41, 42, 43, 44, 45, 63, 64, 65] (by decide +kernel) (by decide +kernel)
set_option maxRecDepth 20000 in
theorem gX7_inside_X7_isNone : GoodIn wsX7_inside (wsV RX7 87 RX7 yX7_isNone wsX7_isNone) := goodIn_app (goodIn_of _ (by decide +kernel)) ggX7_inside_X7_isNone
set_option maxRecDepth 20000 in
theorem ggX7_inside_X7_isThrown : GoodIn wsX7_inside wsX7_isThrown := goodIn_r _ [20, 21, 39, 40, 41, 42, 43, 44, 45] (by decide +kernel) (by decide +kernel)
set_option maxRecDepth 20000 in
theorem gX7_inside_X7_isThrown : GoodIn wsX7_inside (wsV RX7 30 RX7 yX7_isThrown wsX7_isThrown) := goodIn_app (goodIn_of _ (by decide +kernel)) ggX7_inside_X7_isThrown
set_option maxRecDepth 20000 in
theorem ggX7_inside_Jx4a65c_get_915e3 : GoodIn wsX7_inside wsJx4a65c_get_915e3 := goodIn_r _ [25, 13, 26, 27, 28, 29, 30, 31, 32, 33, 34, 35, 36, 11, 37, 38, 63, 64, 65] (by decide +kernel) (by decide +kernel)
set_option maxRecDepth 20000 in
theorem gX7_inside_Jx4a65c_get_915e3 : GoodIn wsX7_inside (wsV RX7 62 RJx4a65c yJx4a65c_get_915e3 wsJx4a65c_get_915e3) := goodIn_app (goodIn_of _ (by decide +kernel)) ggX7_inside_Jx4a65c_get_915e3
theorem dX7_inside_0 : decode cX7_inside 0 = .ok (.aload_n 0, 1) := by decide +kernel
theorem dX7_inside_1 : decode cX7_inside 1 = .ok (.aload_n 0, 1) := by decide +kernel
theorem dX7_inside_2 : decode cX7_inside 2 = .ok (.iload_n 1, 1) := by decide +kernel
theorem dX7_inside_3 : decode cX7_inside 3 = .ok (.invokevirtual 87, 3) := by decide +kernel
theorem dX7_inside_6 : decode cX7_inside 6 = .ok (.iconst 1, 1) := by decide +kernel
theorem dX7_inside_7 : decode cX7_inside 7 = .ok (.invokevirtual 30, 3) := by decide +kernel
theorem dX7_inside_10 : decode cX7_inside 10 = .ok (.ifCond .eq 7, 3) := by decide +kernel
theorem dX7_inside_13 : decode cX7_inside 13 = .ok (.iconst 0, 1) := by decide +kernel
theorem dX7_inside_14 : decode cX7_inside 14 = .ok (.goto 17, 3) := by decide +kernel
theorem dX7_inside_17 : decode cX7_inside 17 = .ok (.aload_n 0, 1) := by decide +kernel
theorem dX7_inside_18 : decode cX7_inside 18 = .ok (.getfield 16, 3) := by decide +kernel
theorem dX7_inside_21 : decode cX7_inside 21 = .ok (.iload_n 1, 1) := by decide +kernel
theorem dX7_inside_22 : decode cX7_inside 22 = .ok (.invokevirtual 62, 3) := by decide +kernel
theorem dX7_inside_25 : decode cX7_inside 25 = .ok (.checkcast 79, 3) := by decide +kernel
theorem dX7_inside_28 : decode cX7_inside 28 = .ok (.getfield 107, 3) := by decide +kernel
theorem dX7_inside_31 : decode cX7_inside 31 = .ok (.ireturn, 1) := by decide +kernel
set_option maxRecDepth 20000 in
theorem ggX7_crept_X7_isNone : GoodIn wsX7_crept wsX7_isNone := goodIn_r _ [7, 1, 8, 9, 10, 11, 12, 13, 14, 15, 6, 16, 39, 40, 41, 42, 43, 44, 45, 63, 64, 65] (by decide +kernel) (by decide +kernel)
set_option maxRecDepth 20000 in
theorem gX7_crept_X7_isNone : GoodIn wsX7_crept (wsV RX7 87 RX7 yX7_isNone wsX7_isNone) := goodIn_app (goodIn_of _ (by decide +kernel)) ggX7_crept_X7_isNone
set_option maxRecDepth 20000 in
theorem ggX7_crept_X7_isThrown : GoodIn wsX7_crept wsX7_isThrown := goodIn_r _ [20, 21, 39, 40, 41, 42, 43, 44, 45] (by decide +kernel) (by decide +kernel)
set_option maxRecDepth 20000 in
theorem gX7_crept_X7_isThrown : GoodIn wsX7_crept (wsV RX7 30 RX7 yX7_isThrown wsX7_isThrown) := goodIn_app (goodIn_of _ (by decide +kernel)) ggX7_crept_X7_isThrown
set_option maxRecDepth 20000 in
theorem ggX7_crept_Jx4a65c_get_915e3 : GoodIn wsX7_crept wsJx4a65c_get_915e3 := goodIn_r _ [25, 13, 26, 27, 28, 29, 30, 31, 32, 33, 34, 35, 36, 11, 37, 38, 63, 64, 65] (by decide +kernel) (by decide +kernel)
set_option maxRecDepth 20000 in
theorem gX7_crept_Jx4a65c_get_915e3 : GoodIn wsX7_crept (wsV RX7 62 RJx4a65c yJx4a65c_get_915e3 wsJx4a65c_get_915e3) := goodIn_app (goodIn_of _ (by decide +kernel)) ggX7_crept_Jx4a65c_get_915e3
theorem dX7_crept_0 : decode cX7_crept 0 = .ok (.aload_n 0, 1) := by decide +kernel
theorem dX7_crept_1 : decode cX7_crept 1 = .ok (.aload_n 0, 1) := by decide +kernel
theorem dX7_crept_2 : decode cX7_crept 2 = .ok (.iload_n 1, 1) := by decide +kernel
theorem dX7_crept_3 : decode cX7_crept 3 = .ok (.invokevirtual 87, 3) := by decide +kernel
theorem dX7_crept_6 : decode cX7_crept 6 = .ok (.iconst 1, 1) := by decide +kernel
theorem dX7_crept_7 : decode cX7_crept 7 = .ok (.invokevirtual 30, 3) := by decide +kernel
theorem dX7_crept_10 : decode cX7_crept 10 = .ok (.ifCond .eq 7, 3) := by decide +kernel
theorem dX7_crept_13 : decode cX7_crept 13 = .ok (.iconst 0, 1) := by decide +kernel
theorem dX7_crept_14 : decode cX7_crept 14 = .ok (.goto 17, 3) := by decide +kernel
theorem dX7_crept_17 : decode cX7_crept 17 = .ok (.aload_n 0, 1) := by decide +kernel
theorem dX7_crept_18 : decode cX7_crept 18 = .ok (.getfield 16, 3) := by decide +kernel
theorem dX7_crept_21 : decode cX7_crept 21 = .ok (.iload_n 1, 1) := by decide +kernel
theorem dX7_crept_22 : decode cX7_crept 22 = .ok (.invokevirtual 62, 3) := by decide +kernel
theorem dX7_crept_25 : decode cX7_crept 25 = .ok (.checkcast 79, 3) := by decide +kernel
theorem dX7_crept_28 : decode cX7_crept 28 = .ok (.getfield 93, 3) := by decide +kernel
theorem dX7_crept_31 : decode cX7_crept 31 = .ok (.ireturn, 1) := by decide +kernel
set_option maxRecDepth 20000 in
theorem ggX7_days_X7_isIn : GoodIn wsX7_days wsX7_isIn := goodIn_r _ [7] (by decide +kernel) (by decide +kernel)
set_option maxRecDepth 20000 in
theorem gX7_days_X7_isIn : GoodIn wsX7_days (va_wsS RX7 26 yX7_isIn wsX7_isIn) := goodIn_app (goodIn_of _ (by decide +kernel)) ggX7_days_X7_isIn
set_option maxRecDepth 20000 in
theorem ggX7_days_X7_isThrown : GoodIn wsX7_days wsX7_isThrown := goodIn_r _ [11, 12, 54, 55, 56, 57, 58, 59, 60] (by decide +kernel) (by decide +kernel)
set_option maxRecDepth 20000 in
theorem gX7_days_X7_isThrown : GoodIn wsX7_days (wsV RX7 30 RX7 yX7_isThrown wsX7_isThrown) := goodIn_app (goodIn_of _ (by decide +kernel)) ggX7_days_X7_isThrown
set_option maxRecDepth 20000 in
theorem ggX7_days_Jx4a65c_iterator_32c93 : GoodIn wsX7_days wsJx4a65c_iterator_32c93 := goodIn_r _ [17, 18, 19, 20, 21, 22, 23, 24, 25, 26, 27, 28, 29, 30, 31, 61, 62, 63, 64, 65, 66, 67] (by decide +kernel) (by decide +kernel)
set_option maxRecDepth 20000 in
theorem gX7_days_Jx4a65c_iterator_32c93 : GoodIn wsX7_days (wsV RX7 119 RJx4a65c yJx4a65c_iterator_32c93 wsJx4a65c_iterator_32c93) := goodIn_app (goodIn_of _ (by decide +kernel)) ggX7_days_Jx4a65c_iterator_32c93
set_option maxRecDepth 20000 in
theorem ggX7_days_Jx35411_hasNext_aae02 : GoodIn wsX7_days wsJx35411_hasNext_aae02 := goodIn_r _ [35, 36, 24, 61, 62, 63, 64, 65, 66, 67] (by decide +kernel) (by decide +kernel)
set_option maxRecDepth 20000 in
theorem gX7_days_Jx35411_hasNext_aae02_f123Jx35411 : GoodIn wsX7_days (va_wsF RX7 123 RJx35411 ⟨"java/util/Iterator", "hasNext", "()Z"⟩ yJx35411_hasNext_aae02 wsJx35411_hasNext_aae02) := goodIn_app (goodIn_of _ (by decide +kernel)) ggX7_days_Jx35411_hasNext_aae02
set_option maxRecDepth 20000 in
theorem ggX7_days_Jx35411_next_0502b : GoodIn wsX7_days wsJx35411_next_0502b := goodIn_r _ [40, 36, 24, 41, 28, 42, 43, 44, 20, 45, 29, 30, 31, 61, 62, 63, 64, 65, 66, 67] (by decide +kernel) (by decide +kernel)
set_option maxRecDepth 20000 in
theorem gX7_days_Jx35411_next_0502b_f129Jx35411 : GoodIn wsX7_days (va_wsF RX7 129 RJx35411 ⟨"java/util/Iterator", "next", "()Ljava/lang/Object;"⟩ yJx35411_next_0502b wsJx35411_next_0502b) := goodIn_app (goodIn_of _ (by decide +kernel)) ggX7_days_Jx35411_next_0502b
set_option maxRecDepth 20000 in
theorem ggX7_days_X5_creeps : GoodIn wsX7_days wsX5_creeps := goodIn_r _ [50, 51, 52, 53, 68, 69, 70, 71, 72, 73, 74, 75, 76, 77, 78, 79, 80, 81, 82, 83, 84] (by decide +kernel) (by decide +kernel)
set_option maxRecDepth 20000 in
theorem gX7_days_X5_creeps : GoodIn wsX7_days (wsV RX7 133 RX5 yX5_creeps wsX5_creeps) := goodIn_app (goodIn_of _ (by decide +kernel)) ggX7_days_X5_creeps
theorem dX7_days_0 : decode cX7_days 0 = .ok (.aload_n 0, 1) := by decide +kernel
theorem dX7_days_1 : decode cX7_days 1 = .ok (.iload_n 1, 1) := by decide +kernel
theorem dX7_days_2 : decode cX7_days 2 = .ok (.iconst 1, 1) := by decide +kernel
theorem dX7_days_3 : decode cX7_days 3 = .ok (.sipush 999, 3) := by decide +kernel
theorem dX7_days_6 : decode cX7_days 6 = .ok (.invokestatic 26, 3) := by decide +kernel
theorem dX7_days_9 : decode cX7_days 9 = .ok (.ifCond .ne 7, 3) := by decide +kernel
theorem dX7_days_12 : decode cX7_days 12 = .ok (.iconst 1, 1) := by decide +kernel
theorem dX7_days_13 : decode cX7_days 13 = .ok (.goto 4, 3) := by decide +kernel
theorem dX7_days_16 : decode cX7_days 16 = .ok (.iconst 0, 1) := by decide +kernel
theorem dX7_days_17 : decode cX7_days 17 = .ok (.iconst 1, 1) := by decide +kernel
theorem dX7_days_18 : decode cX7_days 18 = .ok (.invokevirtual 30, 3) := by decide +kernel
theorem dX7_days_21 : decode cX7_days 21 = .ok (.ifCond .ne 28, 3) := by decide +kernel
theorem dX7_days_24 : decode cX7_days 24 = .ok (.aload_n 0, 1) := by decide +kernel
theorem dX7_days_25 : decode cX7_days 25 = .ok (.aload_n 0, 1) := by decide +kernel
theorem dX7_days_26 : decode cX7_days 26 = .ok (.getfield 116, 3) := by decide +kernel
theorem dX7_days_29 : decode cX7_days 29 = .ok (.iload_n 1, 1) := by decide +kernel
theorem dX7_days_30 : decode cX7_days 30 = .ok (.iadd, 1) := by decide +kernel
theorem dX7_days_31 : decode cX7_days 31 = .ok (.sipush 9999, 3) := by decide +kernel
theorem dX7_days_34 : decode cX7_days 34 = .ok (.if_icmp .le 7, 3) := by decide +kernel
theorem dX7_days_37 : decode cX7_days 37 = .ok (.iconst 1, 1) := by decide +kernel
theorem dX7_days_38 : decode cX7_days 38 = .ok (.goto 4, 3) := by decide +kernel
theorem dX7_days_41 : decode cX7_days 41 = .ok (.iconst 0, 1) := by decide +kernel
theorem dX7_days_42 : decode cX7_days 42 = .ok (.iconst 2, 1) := by decide +kernel
theorem dX7_days_43 : decode cX7_days 43 = .ok (.invokevirtual 30, 3) := by decide +kernel
theorem dX7_days_46 : decode cX7_days 46 = .ok (.ifCond .eq 5, 3) := by decide +kernel
theorem dX7_days_49 : decode cX7_days 49 = .ok (.iconst 0, 1) := by decide +kernel
theorem dX7_days_50 : decode cX7_days 50 = .ok (.ireturn, 1) := by decide +kernel
theorem dX7_days_51 : decode cX7_days 51 = .ok (.aload_n 0, 1) := by decide +kernel
theorem dX7_days_52 : decode cX7_days 52 = .ok (.dup, 1) := by decide +kernel
theorem dX7_days_53 : decode cX7_days 53 = .ok (.getfield 116, 3) := by decide +kernel
theorem dX7_days_56 : decode cX7_days 56 = .ok (.iload_n 1, 1) := by decide +kernel
theorem dX7_days_57 : decode cX7_days 57 = .ok (.iadd, 1) := by decide +kernel
theorem dX7_days_58 : decode cX7_days 58 = .ok (.putfield 116, 3) := by decide +kernel
theorem dX7_days_61 : decode cX7_days 61 = .ok (.iconst 0, 1) := by decide +kernel
theorem dX7_days_62 : decode cX7_days 62 = .ok (.istore_n 2, 1) := by decide +kernel
theorem dX7_days_63 : decode cX7_days 63 = .ok (.iload_n 2, 1) := by decide +kernel
theorem dX7_days_64 : decode cX7_days 64 = .ok (.iload_n 1, 1) := by decide +kernel
theorem dX7_days_65 : decode cX7_days 65 = .ok (.if_icmp .ge 45, 3) := by decide +kernel
theorem dX7_days_68 : decode cX7_days 68 = .ok (.aload_n 0, 1) := by decide +kernel
theorem dX7_days_69 : decode cX7_days 69 = .ok (.getfield 16, 3) := by decide +kernel
theorem dX7_days_72 : decode cX7_days 72 = .ok (.invokevirtual 119, 3) := by decide +kernel
theorem dX7_days_75 : decode cX7_days 75 = .ok (.astore_n 3, 1) := by decide +kernel
theorem dX7_days_76 : decode cX7_days 76 = .ok (.aload_n 3, 1) := by decide +kernel
theorem dX7_days_77 : decode cX7_days 77 = .ok (.invokeinterface 123 1, 5) := by decide +kernel
theorem dX7_days_82 : decode cX7_days 82 = .ok (.ifCond .eq 22, 3) := by decide +kernel
theorem dX7_days_85 : decode cX7_days 85 = .ok (.aload_n 3, 1) := by decide +kernel
theorem dX7_days_86 : decode cX7_days 86 = .ok (.invokeinterface 129 1, 5) := by decide +kernel
theorem dX7_days_91 : decode cX7_days 91 = .ok (.checkcast 79, 3) := by decide +kernel
theorem dX7_days_94 : decode cX7_days 94 = .ok (.astore 4, 2) := by decide +kernel
theorem dX7_days_96 : decode cX7_days 96 = .ok (.aload 4, 2) := by decide +kernel
theorem dX7_days_98 : decode cX7_days 98 = .ok (.invokevirtual 133, 3) := by decide +kernel
theorem dX7_days_101 : decode cX7_days 101 = .ok (.goto (-25), 3) := by decide +kernel
theorem dX7_days_104 : decode cX7_days 104 = .ok (.iinc 2 1, 3) := by decide +kernel
theorem dX7_days_107 : decode cX7_days 107 = .ok (.goto (-44), 3) := by decide +kernel
theorem dX7_days_110 : decode cX7_days 110 = .ok (.aload_n 0, 1) := by decide +kernel
theorem dX7_days_111 : decode cX7_days 111 = .ok (.getfield 116, 3) := by decide +kernel
theorem dX7_days_114 : decode cX7_days 114 = .ok (.ireturn, 1) := by decide +kernel
set_option maxRecDepth 20000 in
theorem ggX7_air_X7_isNoHeat : GoodIn wsX7_air wsX7_isNoHeat := goodIn_r _ [5, 6, 7, 4, 8] (by decide +kernel) (by decide +kernel)
set_option maxRecDepth 20000 in
theorem gX7_air_X7_isNoHeat : GoodIn wsX7_air (va_wsS RX7 136 yX7_isNoHeat wsX7_isNoHeat) := goodIn_app (goodIn_of _ (by decide +kernel)) ggX7_air_X7_isNoHeat
set_option maxRecDepth 20000 in
theorem ggX7_air_X7_isThrown : GoodIn wsX7_air wsX7_isThrown := goodIn_r _ [12, 13, 14, 15, 16, 17, 18, 19, 20] (by decide +kernel) (by decide +kernel)
set_option maxRecDepth 20000 in
theorem gX7_air_X7_isThrown : GoodIn wsX7_air (wsV RX7 30 RX7 yX7_isThrown wsX7_isThrown) := goodIn_app (goodIn_of _ (by decide +kernel)) ggX7_air_X7_isThrown
theorem dX7_air_0 : decode cX7_air 0 = .ok (.aload_n 0, 1) := by decide +kernel
theorem dX7_air_1 : decode cX7_air 1 = .ok (.iload_n 1, 1) := by decide +kernel
theorem dX7_air_2 : decode cX7_air 2 = .ok (.invokestatic 136, 3) := by decide +kernel
theorem dX7_air_5 : decode cX7_air 5 = .ok (.iconst 1, 1) := by decide +kernel
theorem dX7_air_6 : decode cX7_air 6 = .ok (.invokevirtual 30, 3) := by decide +kernel
theorem dX7_air_9 : decode cX7_air 9 = .ok (.ifCond .eq 5, 3) := by decide +kernel
theorem dX7_air_12 : decode cX7_air 12 = .ok (.iconst 0, 1) := by decide +kernel
theorem dX7_air_13 : decode cX7_air 13 = .ok (.ireturn, 1) := by decide +kernel
theorem dX7_air_14 : decode cX7_air 14 = .ok (.aload_n 0, 1) := by decide +kernel
theorem dX7_air_15 : decode cX7_air 15 = .ok (.getfield 19, 3) := by decide +kernel
theorem dX7_air_18 : decode cX7_air 18 = .ok (.istore_n 2, 1) := by decide +kernel
theorem dX7_air_19 : decode cX7_air 19 = .ok (.aload_n 0, 1) := by decide +kernel
theorem dX7_air_20 : decode cX7_air 20 = .ok (.iload_n 1, 1) := by decide +kernel
theorem dX7_air_21 : decode cX7_air 21 = .ok (.putfield 19, 3) := by decide +kernel
theorem dX7_air_24 : decode cX7_air 24 = .ok (.iload_n 2, 1) := by decide +kernel
theorem dX7_air_25 : decode cX7_air 25 = .ok (.ireturn, 1) := by decide +kernel
set_option maxRecDepth 20000 in
theorem ggX7_isEmpty_Jx4a65c_get_915e3 : GoodIn wsX7_isEmpty wsJx4a65c_get_915e3 := goodIn_r _ [7, 8, 9, 10, 11, 12, 13, 14, 15, 16, 17, 18, 19, 6, 20, 21, 36, 37, 38] (by decide +kernel) (by decide +kernel)
set_option maxRecDepth 20000 in
theorem gX7_isEmpty_Jx4a65c_get_915e3 : GoodIn wsX7_isEmpty (wsV RX7 62 RJx4a65c yJx4a65c_get_915e3 wsJx4a65c_get_915e3) := goodIn_app (goodIn_of _ (by decide +kernel)) ggX7_isEmpty_Jx4a65c_get_915e3
set_option maxRecDepth 20000 in
theorem ggX7_isEmpty_X5_isFilled : GoodIn wsX7_isEmpty wsX5_isFilled := goodIn_r _ [26, 27, 28, 39, 40, 41, 42, 43, 44, 45, 46, 47, 48, 49, 50, 51, 52, 53, 54, 55] (by decide +kernel) (by decide +kernel)
set_option maxRecDepth 20000 in
theorem gX7_isEmpty_X5_isFilled : GoodIn wsX7_isEmpty (wsV RX7 139 RX5 yX5_isFilled wsX5_isFilled) := goodIn_app (goodIn_of _ (by decide +kernel)) ggX7_isEmpty_X5_isFilled
theorem dX7_isEmpty_0 : decode cX7_isEmpty 0 = .ok (.aload_n 0, 1) := by decide +kernel
theorem dX7_isEmpty_1 : decode cX7_isEmpty 1 = .ok (.getfield 16, 3) := by decide +kernel
theorem dX7_isEmpty_4 : decode cX7_isEmpty 4 = .ok (.iload_n 1, 1) := by decide +kernel
theorem dX7_isEmpty_5 : decode cX7_isEmpty 5 = .ok (.invokevirtual 62, 3) := by decide +kernel
theorem dX7_isEmpty_8 : decode cX7_isEmpty 8 = .ok (.checkcast 79, 3) := by decide +kernel
theorem dX7_isEmpty_11 : decode cX7_isEmpty 11 = .ok (.invokevirtual 139, 3) := by decide +kernel
theorem dX7_isEmpty_14 : decode cX7_isEmpty 14 = .ok (.ifCond .ne 7, 3) := by decide +kernel
theorem dX7_isEmpty_17 : decode cX7_isEmpty 17 = .ok (.iconst 1, 1) := by decide +kernel
theorem dX7_isEmpty_18 : decode cX7_isEmpty 18 = .ok (.goto 4, 3) := by decide +kernel
theorem dX7_isEmpty_21 : decode cX7_isEmpty 21 = .ok (.iconst 0, 1) := by decide +kernel
theorem dX7_isEmpty_22 : decode cX7_isEmpty 22 = .ok (.ireturn, 1) := by decide +kernel
set_option maxRecDepth 20000 in
theorem ggX7_level_X7_isNone : GoodIn wsX7_level wsX7_isNone := goodIn_r _ [8, 1, 9, 10, 11, 12, 13, 14, 15, 16, 7, 17, 81, 82, 83, 84, 85, 86, 87, 88, 89, 90] (by decide +kernel) (by decide +kernel)
set_option maxRecDepth 20000 in
theorem gX7_level_X7_isNone : GoodIn wsX7_level (wsV RX7 87 RX7 yX7_isNone wsX7_isNone) := goodIn_app (goodIn_of _ (by decide +kernel)) ggX7_level_X7_isNone
set_option maxRecDepth 20000 in
theorem ggX7_level_X7_isThrown : GoodIn wsX7_level wsX7_isThrown := goodIn_r _ [21, 22, 81, 82, 83, 84, 85, 86, 87] (by decide +kernel) (by decide +kernel)
set_option maxRecDepth 20000 in
theorem gX7_level_X7_isThrown : GoodIn wsX7_level (wsV RX7 30 RX7 yX7_isThrown wsX7_isThrown) := goodIn_app (goodIn_of _ (by decide +kernel)) ggX7_level_X7_isThrown
set_option maxRecDepth 20000 in
theorem ggX7_level_X7_isNoHeat : GoodIn wsX7_level wsX7_isNoHeat := goodIn_r _ [25, 15, 16, 7, 17] (by decide +kernel) (by decide +kernel)
set_option maxRecDepth 20000 in
theorem gX7_level_X7_isNoHeat : GoodIn wsX7_level (va_wsS RX7 136 yX7_isNoHeat wsX7_isNoHeat) := goodIn_app (goodIn_of _ (by decide +kernel)) ggX7_level_X7_isNoHeat
set_option maxRecDepth 20000 in
theorem ggX7_level_X7_isNoPlace : GoodIn wsX7_level wsX7_isNoPlace := goodIn_r _ [28, 15, 16, 7, 17] (by decide +kernel) (by decide +kernel)
set_option maxRecDepth 20000 in
theorem gX7_level_X7_isNoPlace : GoodIn wsX7_level (va_wsS RX7 70 yX7_isNoPlace wsX7_isNoPlace) := goodIn_app (goodIn_of _ (by decide +kernel)) ggX7_level_X7_isNoPlace
set_option maxRecDepth 20000 in
theorem ggX7_level_X7_isEmpty : GoodIn wsX7_level wsX7_isEmpty := goodIn_r _ [32, 1, 2, 33, 34, 35, 12, 36, 14, 37, 38, 39, 40, 41, 42, 43, 44, 45, 46, 47, 48, 49, 50, 51, 52, 53, 54, 55, 56, 81, 82, 83, 84, 85, 86, 87, 88, 89, 90, 91, 92, 93, 94, 95, 96, 97, 98, 99, 100, 101, 102, 103, 104, 105, 106, 107] (by decide +kernel) (by decide +kernel)
set_option maxRecDepth 20000 in
theorem gX7_level_X7_isEmpty : GoodIn wsX7_level (wsV RX7 142 RX7 yX7_isEmpty wsX7_isEmpty) := goodIn_app (goodIn_of _ (by decide +kernel)) ggX7_level_X7_isEmpty
set_option maxRecDepth 20000 in
theorem ggX7_level_Jx4a65c_get_915e3 : GoodIn wsX7_level wsJx4a65c_get_915e3 := goodIn_r _ [36, 14, 37, 38, 39, 40, 41, 42, 43, 44, 45, 46, 47, 12, 48, 49, 88, 89, 90] (by decide +kernel) (by decide +kernel)
set_option maxRecDepth 20000 in
theorem gX7_level_Jx4a65c_get_915e3 : GoodIn wsX7_level (wsV RX7 62 RJx4a65c yJx4a65c_get_915e3 wsJx4a65c_get_915e3) := goodIn_app (goodIn_of _ (by decide +kernel)) ggX7_level_Jx4a65c_get_915e3
set_option maxRecDepth 20000 in
theorem ggX7_level_X5_level : GoodIn wsX7_level wsX5_level := goodIn_r _ [60, 61, 62, 63, 64, 65, 66, 67, 68, 69, 53, 70, 55, 71, 72, 73, 74, 75, 76, 77, 78, 79, 80, 91, 92, 93, 94, 95, 96, 97, 98, 99, 100, 101, 102, 103, 104, 105, 106, 107, 108, 109] (by decide +kernel) (by decide +kernel)
set_option maxRecDepth 20000 in
theorem gX7_level_X5_level : GoodIn wsX7_level (wsV RX7 145 RX5 yX5_level wsX5_level) := goodIn_app (goodIn_of _ (by decide +kernel)) ggX7_level_X5_level
theorem dX7_level_0 : decode cX7_level 0 = .ok (.aload_n 0, 1) := by decide +kernel
theorem dX7_level_1 : decode cX7_level 1 = .ok (.aload_n 0, 1) := by decide +kernel
theorem dX7_level_2 : decode cX7_level 2 = .ok (.iload_n 1, 1) := by decide +kernel
theorem dX7_level_3 : decode cX7_level 3 = .ok (.invokevirtual 87, 3) := by decide +kernel
theorem dX7_level_6 : decode cX7_level 6 = .ok (.iconst 1, 1) := by decide +kernel
theorem dX7_level_7 : decode cX7_level 7 = .ok (.invokevirtual 30, 3) := by decide +kernel
theorem dX7_level_10 : decode cX7_level 10 = .ok (.ifCond .ne 43, 3) := by decide +kernel
theorem dX7_level_13 : decode cX7_level 13 = .ok (.aload_n 0, 1) := by decide +kernel
theorem dX7_level_14 : decode cX7_level 14 = .ok (.iload_n 2, 1) := by decide +kernel
theorem dX7_level_15 : decode cX7_level 15 = .ok (.invokestatic 136, 3) := by decide +kernel
theorem dX7_level_18 : decode cX7_level 18 = .ok (.ifCond .ne 10, 3) := by decide +kernel
theorem dX7_level_21 : decode cX7_level 21 = .ok (.iload_n 3, 1) := by decide +kernel
theorem dX7_level_22 : decode cX7_level 22 = .ok (.invokestatic 70, 3) := by decide +kernel
theorem dX7_level_25 : decode cX7_level 25 = .ok (.ifCond .eq 7, 3) := by decide +kernel
theorem dX7_level_28 : decode cX7_level 28 = .ok (.iconst 1, 1) := by decide +kernel
theorem dX7_level_29 : decode cX7_level 29 = .ok (.goto 4, 3) := by decide +kernel
theorem dX7_level_32 : decode cX7_level 32 = .ok (.iconst 0, 1) := by decide +kernel
theorem dX7_level_33 : decode cX7_level 33 = .ok (.iconst 2, 1) := by decide +kernel
theorem dX7_level_34 : decode cX7_level 34 = .ok (.invokevirtual 30, 3) := by decide +kernel
theorem dX7_level_37 : decode cX7_level 37 = .ok (.ifCond .ne 16, 3) := by decide +kernel
theorem dX7_level_40 : decode cX7_level 40 = .ok (.aload_n 0, 1) := by decide +kernel
theorem dX7_level_41 : decode cX7_level 41 = .ok (.aload_n 0, 1) := by decide +kernel
theorem dX7_level_42 : decode cX7_level 42 = .ok (.iload_n 1, 1) := by decide +kernel
theorem dX7_level_43 : decode cX7_level 43 = .ok (.invokevirtual 142, 3) := by decide +kernel
theorem dX7_level_46 : decode cX7_level 46 = .ok (.iconst 3, 1) := by decide +kernel
theorem dX7_level_47 : decode cX7_level 47 = .ok (.invokevirtual 30, 3) := by decide +kernel
theorem dX7_level_50 : decode cX7_level 50 = .ok (.ifCond .eq 5, 3) := by decide +kernel
theorem dX7_level_53 : decode cX7_level 53 = .ok (.iconst 0, 1) := by decide +kernel
theorem dX7_level_54 : decode cX7_level 54 = .ok (.ireturn, 1) := by decide +kernel
theorem dX7_level_55 : decode cX7_level 55 = .ok (.aload_n 0, 1) := by decide +kernel
theorem dX7_level_56 : decode cX7_level 56 = .ok (.getfield 16, 3) := by decide +kernel
theorem dX7_level_59 : decode cX7_level 59 = .ok (.iload_n 1, 1) := by decide +kernel
theorem dX7_level_60 : decode cX7_level 60 = .ok (.invokevirtual 62, 3) := by decide +kernel
theorem dX7_level_63 : decode cX7_level 63 = .ok (.checkcast 79, 3) := by decide +kernel
theorem dX7_level_66 : decode cX7_level 66 = .ok (.iload_n 2, 1) := by decide +kernel
theorem dX7_level_67 : decode cX7_level 67 = .ok (.iload_n 3, 1) := by decide +kernel
theorem dX7_level_68 : decode cX7_level 68 = .ok (.aload_n 0, 1) := by decide +kernel
theorem dX7_level_69 : decode cX7_level 69 = .ok (.getfield 19, 3) := by decide +kernel
theorem dX7_level_72 : decode cX7_level 72 = .ok (.invokevirtual 145, 3) := by decide +kernel
theorem dX7_level_75 : decode cX7_level 75 = .ok (.istore 4, 2) := by decide +kernel
theorem dX7_level_77 : decode cX7_level 77 = .ok (.aload_n 0, 1) := by decide +kernel
theorem dX7_level_78 : decode cX7_level 78 = .ok (.iload 4, 2) := by decide +kernel
theorem dX7_level_80 : decode cX7_level 80 = .ok (.iconst (-1), 1) := by decide +kernel
theorem dX7_level_81 : decode cX7_level 81 = .ok (.if_icmp .ne 7, 3) := by decide +kernel
theorem dX7_level_84 : decode cX7_level 84 = .ok (.iconst 1, 1) := by decide +kernel
theorem dX7_level_85 : decode cX7_level 85 = .ok (.goto 4, 3) := by decide +kernel
theorem dX7_level_88 : decode cX7_level 88 = .ok (.iconst 0, 1) := by decide +kernel
theorem dX7_level_89 : decode cX7_level 89 = .ok (.iconst 4, 1) := by decide +kernel
theorem dX7_level_90 : decode cX7_level 90 = .ok (.invokevirtual 30, 3) := by decide +kernel
theorem dX7_level_93 : decode cX7_level 93 = .ok (.ifCond .eq 7, 3) := by decide +kernel
theorem dX7_level_96 : decode cX7_level 96 = .ok (.iconst 0, 1) := by decide +kernel
theorem dX7_level_97 : decode cX7_level 97 = .ok (.goto 5, 3) := by decide +kernel
theorem dX7_level_100 : decode cX7_level 100 = .ok (.iload 4, 2) := by decide +kernel
theorem dX7_level_102 : decode cX7_level 102 = .ok (.ireturn, 1) := by decide +kernel
set_option maxRecDepth 20000 in
theorem ggX7_ice_X7_isNone : GoodIn wsX7_ice wsX7_isNone := goodIn_r _ [8, 1, 9, 10, 11, 12, 13, 14, 15, 16, 7, 17, 75, 76, 77, 78, 79, 80, 81, 99, 100, 101] (by decide +kernel) (by decide +kernel)
set_option maxRecDepth 20000 in
theorem gX7_ice_X7_isNone : GoodIn wsX7_ice (wsV RX7 87 RX7 yX7_isNone wsX7_isNone) := goodIn_app (goodIn_of _ (by decide +kernel)) ggX7_ice_X7_isNone
set_option maxRecDepth 20000 in
theorem ggX7_ice_X7_isThrown : GoodIn wsX7_ice wsX7_isThrown := goodIn_r _ [21, 22, 75, 76, 77, 78, 79, 80, 81] (by decide +kernel) (by decide +kernel)
set_option maxRecDepth 20000 in
theorem gX7_ice_X7_isThrown : GoodIn wsX7_ice (wsV RX7 30 RX7 yX7_isThrown wsX7_isThrown) := goodIn_app (goodIn_of _ (by decide +kernel)) ggX7_ice_X7_isThrown
set_option maxRecDepth 20000 in
theorem ggX7_ice_X7_isEmpty : GoodIn wsX7_ice wsX7_isEmpty := goodIn_r _ [26, 1, 2, 27, 28, 29, 12, 30, 14, 31, 32, 33, 34, 35, 36, 37, 38, 39, 40, 41, 42, 43, 44, 45, 46, 47, 48, 49, 50, 75, 76, 77, 78, 79, 80, 81, 99, 100, 101, 82, 83, 84, 85, 86, 87, 88, 89, 90, 91, 92, 93, 94, 95, 96, 97, 98] (by decide +kernel) (by decide +kernel)
set_option maxRecDepth 20000 in
theorem gX7_ice_X7_isEmpty : GoodIn wsX7_ice (wsV RX7 142 RX7 yX7_isEmpty wsX7_isEmpty) := goodIn_app (goodIn_of _ (by decide +kernel)) ggX7_ice_X7_isEmpty
set_option maxRecDepth 20000 in
theorem ggX7_ice_Jx4a65c_get_915e3 : GoodIn wsX7_ice wsJx4a65c_get_915e3 := goodIn_r _ [30, 14, 31, 32, 33, 34, 35, 36, 37, 38, 39, 40, 41, 12, 42, 43, 99, 100, 101] (by decide +kernel) (by decide +kernel)
set_option maxRecDepth 20000 in
theorem gX7_ice_Jx4a65c_get_915e3 : GoodIn wsX7_ice (wsV RX7 62 RJx4a65c yJx4a65c_get_915e3 wsJx4a65c_get_915e3) := goodIn_app (goodIn_of _ (by decide +kernel)) ggX7_ice_Jx4a65c_get_915e3
set_option maxRecDepth 20000 in
theorem ggX7_ice_X5_level : GoodIn wsX7_ice wsX5_level := goodIn_r _ [54, 55, 56, 57, 58, 59, 60, 61, 62, 63, 47, 64, 49, 65, 66, 67, 68, 69, 70, 71, 72, 73, 74, 82, 83, 84, 85, 86, 87, 88, 89, 90, 91, 92, 93, 94, 95, 96, 97, 98, 102, 103] (by decide +kernel) (by decide +kernel)
set_option maxRecDepth 20000 in
theorem gX7_ice_X5_level : GoodIn wsX7_ice (wsV RX7 145 RX5 yX5_level wsX5_level) := goodIn_app (goodIn_of _ (by decide +kernel)) ggX7_ice_X5_level
theorem dX7_ice_0 : decode cX7_ice 0 = .ok (.aload_n 0, 1) := by decide +kernel
theorem dX7_ice_1 : decode cX7_ice 1 = .ok (.aload_n 0, 1) := by decide +kernel
theorem dX7_ice_2 : decode cX7_ice 2 = .ok (.iload_n 1, 1) := by decide +kernel
theorem dX7_ice_3 : decode cX7_ice 3 = .ok (.invokevirtual 87, 3) := by decide +kernel
theorem dX7_ice_6 : decode cX7_ice 6 = .ok (.iconst 1, 1) := by decide +kernel
theorem dX7_ice_7 : decode cX7_ice 7 = .ok (.invokevirtual 30, 3) := by decide +kernel
theorem dX7_ice_10 : decode cX7_ice 10 = .ok (.ifCond .ne 16, 3) := by decide +kernel
theorem dX7_ice_13 : decode cX7_ice 13 = .ok (.aload_n 0, 1) := by decide +kernel
theorem dX7_ice_14 : decode cX7_ice 14 = .ok (.aload_n 0, 1) := by decide +kernel
theorem dX7_ice_15 : decode cX7_ice 15 = .ok (.iload_n 1, 1) := by decide +kernel
theorem dX7_ice_16 : decode cX7_ice 16 = .ok (.invokevirtual 142, 3) := by decide +kernel
theorem dX7_ice_19 : decode cX7_ice 19 = .ok (.iconst 2, 1) := by decide +kernel
theorem dX7_ice_20 : decode cX7_ice 20 = .ok (.invokevirtual 30, 3) := by decide +kernel
theorem dX7_ice_23 : decode cX7_ice 23 = .ok (.ifCond .eq 5, 3) := by decide +kernel
theorem dX7_ice_26 : decode cX7_ice 26 = .ok (.iconst 0, 1) := by decide +kernel
theorem dX7_ice_27 : decode cX7_ice 27 = .ok (.ireturn, 1) := by decide +kernel
theorem dX7_ice_28 : decode cX7_ice 28 = .ok (.aload_n 0, 1) := by decide +kernel
theorem dX7_ice_29 : decode cX7_ice 29 = .ok (.getfield 16, 3) := by decide +kernel
theorem dX7_ice_32 : decode cX7_ice 32 = .ok (.iload_n 1, 1) := by decide +kernel
theorem dX7_ice_33 : decode cX7_ice 33 = .ok (.invokevirtual 62, 3) := by decide +kernel
theorem dX7_ice_36 : decode cX7_ice 36 = .ok (.checkcast 79, 3) := by decide +kernel
theorem dX7_ice_39 : decode cX7_ice 39 = .ok (.astore_n 2, 1) := by decide +kernel
theorem dX7_ice_40 : decode cX7_ice 40 = .ok (.aload_n 2, 1) := by decide +kernel
theorem dX7_ice_41 : decode cX7_ice 41 = .ok (.iconst 0, 1) := by decide +kernel
theorem dX7_ice_42 : decode cX7_ice 42 = .ok (.sipush 200, 3) := by decide +kernel
theorem dX7_ice_45 : decode cX7_ice 45 = .ok (.aload_n 0, 1) := by decide +kernel
theorem dX7_ice_46 : decode cX7_ice 46 = .ok (.getfield 19, 3) := by decide +kernel
theorem dX7_ice_49 : decode cX7_ice 49 = .ok (.invokevirtual 145, 3) := by decide +kernel
theorem dX7_ice_52 : decode cX7_ice 52 = .ok (.istore_n 3, 1) := by decide +kernel
theorem dX7_ice_53 : decode cX7_ice 53 = .ok (.aload_n 0, 1) := by decide +kernel
theorem dX7_ice_54 : decode cX7_ice 54 = .ok (.iload_n 3, 1) := by decide +kernel
theorem dX7_ice_55 : decode cX7_ice 55 = .ok (.iconst (-1), 1) := by decide +kernel
theorem dX7_ice_56 : decode cX7_ice 56 = .ok (.if_icmp .ne 7, 3) := by decide +kernel
theorem dX7_ice_59 : decode cX7_ice 59 = .ok (.iconst 1, 1) := by decide +kernel
theorem dX7_ice_60 : decode cX7_ice 60 = .ok (.goto 4, 3) := by decide +kernel
theorem dX7_ice_63 : decode cX7_ice 63 = .ok (.iconst 0, 1) := by decide +kernel
theorem dX7_ice_64 : decode cX7_ice 64 = .ok (.iconst 3, 1) := by decide +kernel
theorem dX7_ice_65 : decode cX7_ice 65 = .ok (.invokevirtual 30, 3) := by decide +kernel
theorem dX7_ice_68 : decode cX7_ice 68 = .ok (.ifCond .eq 5, 3) := by decide +kernel
theorem dX7_ice_71 : decode cX7_ice 71 = .ok (.iconst 0, 1) := by decide +kernel
theorem dX7_ice_72 : decode cX7_ice 72 = .ok (.ireturn, 1) := by decide +kernel
theorem dX7_ice_73 : decode cX7_ice 73 = .ok (.aload_n 2, 1) := by decide +kernel
theorem dX7_ice_74 : decode cX7_ice 74 = .ok (.iload_n 3, 1) := by decide +kernel
theorem dX7_ice_75 : decode cX7_ice 75 = .ok (.putfield 149, 3) := by decide +kernel
theorem dX7_ice_78 : decode cX7_ice 78 = .ok (.aload_n 2, 1) := by decide +kernel
theorem dX7_ice_79 : decode cX7_ice 79 = .ok (.bipush 32, 2) := by decide +kernel
theorem dX7_ice_81 : decode cX7_ice 81 = .ok (.putfield 152, 3) := by decide +kernel
theorem dX7_ice_84 : decode cX7_ice 84 = .ok (.iload_n 3, 1) := by decide +kernel
theorem dX7_ice_85 : decode cX7_ice 85 = .ok (.ireturn, 1) := by decide +kernel
theorem dX7_boils_0 : decode cX7_boils 0 = .ok (.sipush 1000, 3) := by decide +kernel
theorem dX7_boils_3 : decode cX7_boils 3 = .ok (.bipush 37, 2) := by decide +kernel
theorem dX7_boils_5 : decode cX7_boils 5 = .ok (.iload_n 0, 1) := by decide +kernel
theorem dX7_boils_6 : decode cX7_boils 6 = .ok (.sipush 760, 3) := by decide +kernel
theorem dX7_boils_9 : decode cX7_boils 9 = .ok (.isub, 1) := by decide +kernel
theorem dX7_boils_10 : decode cX7_boils 10 = .ok (.imul, 1) := by decide +kernel
theorem dX7_boils_11 : decode cX7_boils 11 = .ok (.bipush 100, 2) := by decide +kernel
theorem dX7_boils_13 : decode cX7_boils 13 = .ok (.idiv, 1) := by decide +kernel
theorem dX7_boils_14 : decode cX7_boils 14 = .ok (.iadd, 1) := by decide +kernel
theorem dX7_boils_15 : decode cX7_boils 15 = .ok (.ireturn, 1) := by decide +kernel
set_option maxRecDepth 20000 in
theorem ggX7_steam_X7_isNone : GoodIn wsX7_steam wsX7_isNone := goodIn_r _ [8, 1, 9, 10, 11, 12, 13, 14, 15, 16, 7, 17, 78, 79, 80, 81, 82, 83, 84, 102, 103, 104] (by decide +kernel) (by decide +kernel)
set_option maxRecDepth 20000 in
theorem gX7_steam_X7_isNone : GoodIn wsX7_steam (wsV RX7 87 RX7 yX7_isNone wsX7_isNone) := goodIn_app (goodIn_of _ (by decide +kernel)) ggX7_steam_X7_isNone
set_option maxRecDepth 20000 in
theorem ggX7_steam_X7_isThrown : GoodIn wsX7_steam wsX7_isThrown := goodIn_r _ [21, 22, 78, 79, 80, 81, 82, 83, 84] (by decide +kernel) (by decide +kernel)
set_option maxRecDepth 20000 in
theorem gX7_steam_X7_isThrown : GoodIn wsX7_steam (wsV RX7 30 RX7 yX7_isThrown wsX7_isThrown) := goodIn_app (goodIn_of _ (by decide +kernel)) ggX7_steam_X7_isThrown
set_option maxRecDepth 20000 in
theorem ggX7_steam_X7_isIn : GoodIn wsX7_steam wsX7_isIn := goodIn_r _ [17] (by decide +kernel) (by decide +kernel)
set_option maxRecDepth 20000 in
theorem gX7_steam_X7_isIn : GoodIn wsX7_steam (va_wsS RX7 26 yX7_isIn wsX7_isIn) := goodIn_app (goodIn_of _ (by decide +kernel)) ggX7_steam_X7_isIn
set_option maxRecDepth 20000 in
theorem ggX7_steam_X7_isEmpty : GoodIn wsX7_steam wsX7_isEmpty := goodIn_r _ [26, 1, 2, 27, 28, 29, 12, 30, 14, 31, 32, 33, 34, 35, 36, 37, 38, 39, 40, 41, 42, 43, 44, 45, 46, 47, 48, 49, 50, 78, 79, 80, 81, 82, 83, 84, 102, 103, 104, 85, 86, 87, 88, 89, 90, 91, 92, 93, 94, 95, 96, 97, 98, 99, 100, 101] (by decide +kernel) (by decide +kernel)
set_option maxRecDepth 20000 in
theorem gX7_steam_X7_isEmpty : GoodIn wsX7_steam (wsV RX7 142 RX7 yX7_isEmpty wsX7_isEmpty) := goodIn_app (goodIn_of _ (by decide +kernel)) ggX7_steam_X7_isEmpty
set_option maxRecDepth 20000 in
theorem ggX7_steam_Jx4a65c_get_915e3 : GoodIn wsX7_steam wsJx4a65c_get_915e3 := goodIn_r _ [30, 14, 31, 32, 33, 34, 35, 36, 37, 38, 39, 40, 41, 12, 42, 43, 102, 103, 104] (by decide +kernel) (by decide +kernel)
set_option maxRecDepth 20000 in
theorem gX7_steam_Jx4a65c_get_915e3 : GoodIn wsX7_steam (wsV RX7 62 RJx4a65c yJx4a65c_get_915e3 wsJx4a65c_get_915e3) := goodIn_app (goodIn_of _ (by decide +kernel)) ggX7_steam_Jx4a65c_get_915e3
set_option maxRecDepth 20000 in
theorem ggX7_steam_X7_boils : GoodIn wsX7_steam wsX7_boils := goodIn_r _ [53] (by decide +kernel) (by decide +kernel)
set_option maxRecDepth 20000 in
theorem gX7_steam_X7_boils : GoodIn wsX7_steam (va_wsS RX7 155 yX7_boils wsX7_boils) := goodIn_app (goodIn_of _ (by decide +kernel)) ggX7_steam_X7_boils
set_option maxRecDepth 20000 in
theorem ggX7_steam_X5_level : GoodIn wsX7_steam wsX5_level := goodIn_r _ [57, 58, 59, 60, 61, 62, 63, 64, 65, 66, 47, 67, 49, 68, 69, 70, 71, 72, 73, 74, 75, 76, 77, 85, 86, 87, 88, 89, 90, 91, 92, 93, 94, 95, 96, 97, 98, 99, 100, 101, 105, 106] (by decide +kernel) (by decide +kernel)
set_option maxRecDepth 20000 in
theorem gX7_steam_X5_level : GoodIn wsX7_steam (wsV RX7 145 RX5 yX5_level wsX5_level) := goodIn_app (goodIn_of _ (by decide +kernel)) ggX7_steam_X5_level
theorem dX7_steam_0 : decode cX7_steam 0 = .ok (.aload_n 0, 1) := by decide +kernel
theorem dX7_steam_1 : decode cX7_steam 1 = .ok (.aload_n 0, 1) := by decide +kernel
theorem dX7_steam_2 : decode cX7_steam 2 = .ok (.iload_n 1, 1) := by decide +kernel
theorem dX7_steam_3 : decode cX7_steam 3 = .ok (.invokevirtual 87, 3) := by decide +kernel
theorem dX7_steam_6 : decode cX7_steam 6 = .ok (.iconst 1, 1) := by decide +kernel
theorem dX7_steam_7 : decode cX7_steam 7 = .ok (.invokevirtual 30, 3) := by decide +kernel
theorem dX7_steam_10 : decode cX7_steam 10 = .ok (.ifCond .ne 42, 3) := by decide +kernel
theorem dX7_steam_13 : decode cX7_steam 13 = .ok (.aload_n 0, 1) := by decide +kernel
theorem dX7_steam_14 : decode cX7_steam 14 = .ok (.iload_n 2, 1) := by decide +kernel
theorem dX7_steam_15 : decode cX7_steam 15 = .ok (.sipush 700, 3) := by decide +kernel
theorem dX7_steam_18 : decode cX7_steam 18 = .ok (.sipush 800, 3) := by decide +kernel
theorem dX7_steam_21 : decode cX7_steam 21 = .ok (.invokestatic 26, 3) := by decide +kernel
theorem dX7_steam_24 : decode cX7_steam 24 = .ok (.ifCond .ne 7, 3) := by decide +kernel
theorem dX7_steam_27 : decode cX7_steam 27 = .ok (.iconst 1, 1) := by decide +kernel
theorem dX7_steam_28 : decode cX7_steam 28 = .ok (.goto 4, 3) := by decide +kernel
theorem dX7_steam_31 : decode cX7_steam 31 = .ok (.iconst 0, 1) := by decide +kernel
theorem dX7_steam_32 : decode cX7_steam 32 = .ok (.iconst 2, 1) := by decide +kernel
theorem dX7_steam_33 : decode cX7_steam 33 = .ok (.invokevirtual 30, 3) := by decide +kernel
theorem dX7_steam_36 : decode cX7_steam 36 = .ok (.ifCond .ne 16, 3) := by decide +kernel
theorem dX7_steam_39 : decode cX7_steam 39 = .ok (.aload_n 0, 1) := by decide +kernel
theorem dX7_steam_40 : decode cX7_steam 40 = .ok (.aload_n 0, 1) := by decide +kernel
theorem dX7_steam_41 : decode cX7_steam 41 = .ok (.iload_n 1, 1) := by decide +kernel
theorem dX7_steam_42 : decode cX7_steam 42 = .ok (.invokevirtual 142, 3) := by decide +kernel
theorem dX7_steam_45 : decode cX7_steam 45 = .ok (.iconst 3, 1) := by decide +kernel
theorem dX7_steam_46 : decode cX7_steam 46 = .ok (.invokevirtual 30, 3) := by decide +kernel
theorem dX7_steam_49 : decode cX7_steam 49 = .ok (.ifCond .eq 5, 3) := by decide +kernel
theorem dX7_steam_52 : decode cX7_steam 52 = .ok (.iconst 0, 1) := by decide +kernel
theorem dX7_steam_53 : decode cX7_steam 53 = .ok (.ireturn, 1) := by decide +kernel
theorem dX7_steam_54 : decode cX7_steam 54 = .ok (.aload_n 0, 1) := by decide +kernel
theorem dX7_steam_55 : decode cX7_steam 55 = .ok (.getfield 16, 3) := by decide +kernel
theorem dX7_steam_58 : decode cX7_steam 58 = .ok (.iload_n 1, 1) := by decide +kernel
theorem dX7_steam_59 : decode cX7_steam 59 = .ok (.invokevirtual 62, 3) := by decide +kernel
theorem dX7_steam_62 : decode cX7_steam 62 = .ok (.checkcast 79, 3) := by decide +kernel
theorem dX7_steam_65 : decode cX7_steam 65 = .ok (.astore_n 3, 1) := by decide +kernel
theorem dX7_steam_66 : decode cX7_steam 66 = .ok (.iload_n 2, 1) := by decide +kernel
theorem dX7_steam_67 : decode cX7_steam 67 = .ok (.invokestatic 155, 3) := by decide +kernel
theorem dX7_steam_70 : decode cX7_steam 70 = .ok (.istore 4, 2) := by decide +kernel
theorem dX7_steam_72 : decode cX7_steam 72 = .ok (.aload_n 3, 1) := by decide +kernel
theorem dX7_steam_73 : decode cX7_steam 73 = .ok (.iload 4, 2) := by decide +kernel
theorem dX7_steam_75 : decode cX7_steam 75 = .ok (.sipush 200, 3) := by decide +kernel
theorem dX7_steam_78 : decode cX7_steam 78 = .ok (.aload_n 0, 1) := by decide +kernel
theorem dX7_steam_79 : decode cX7_steam 79 = .ok (.getfield 19, 3) := by decide +kernel
theorem dX7_steam_82 : decode cX7_steam 82 = .ok (.invokevirtual 145, 3) := by decide +kernel
theorem dX7_steam_85 : decode cX7_steam 85 = .ok (.istore 5, 2) := by decide +kernel
theorem dX7_steam_87 : decode cX7_steam 87 = .ok (.aload_n 0, 1) := by decide +kernel
theorem dX7_steam_88 : decode cX7_steam 88 = .ok (.iload 5, 2) := by decide +kernel
theorem dX7_steam_90 : decode cX7_steam 90 = .ok (.iconst (-1), 1) := by decide +kernel
theorem dX7_steam_91 : decode cX7_steam 91 = .ok (.if_icmp .ne 7, 3) := by decide +kernel
theorem dX7_steam_94 : decode cX7_steam 94 = .ok (.iconst 1, 1) := by decide +kernel
theorem dX7_steam_95 : decode cX7_steam 95 = .ok (.goto 4, 3) := by decide +kernel
theorem dX7_steam_98 : decode cX7_steam 98 = .ok (.iconst 0, 1) := by decide +kernel
theorem dX7_steam_99 : decode cX7_steam 99 = .ok (.iconst 4, 1) := by decide +kernel
theorem dX7_steam_100 : decode cX7_steam 100 = .ok (.invokevirtual 30, 3) := by decide +kernel
theorem dX7_steam_103 : decode cX7_steam 103 = .ok (.ifCond .eq 5, 3) := by decide +kernel
theorem dX7_steam_106 : decode cX7_steam 106 = .ok (.iconst 0, 1) := by decide +kernel
theorem dX7_steam_107 : decode cX7_steam 107 = .ok (.ireturn, 1) := by decide +kernel
theorem dX7_steam_108 : decode cX7_steam 108 = .ok (.aload_n 3, 1) := by decide +kernel
theorem dX7_steam_109 : decode cX7_steam 109 = .ok (.iload 5, 2) := by decide +kernel
theorem dX7_steam_111 : decode cX7_steam 111 = .ok (.putfield 158, 3) := by decide +kernel
theorem dX7_steam_114 : decode cX7_steam 114 = .ok (.aload_n 3, 1) := by decide +kernel
theorem dX7_steam_115 : decode cX7_steam 115 = .ok (.iload 4, 2) := by decide +kernel
theorem dX7_steam_117 : decode cX7_steam 117 = .ok (.putfield 161, 3) := by decide +kernel
theorem dX7_steam_120 : decode cX7_steam 120 = .ok (.aload_n 3, 1) := by decide +kernel
theorem dX7_steam_121 : decode cX7_steam 121 = .ok (.bipush 32, 2) := by decide +kernel
theorem dX7_steam_123 : decode cX7_steam 123 = .ok (.putfield 152, 3) := by decide +kernel
theorem dX7_steam_126 : decode cX7_steam 126 = .ok (.iload 4, 2) := by decide +kernel
theorem dX7_steam_128 : decode cX7_steam 128 = .ok (.ireturn, 1) := by decide +kernel
set_option maxRecDepth 20000 in
theorem ggX7_boiling_X7_isIn : GoodIn wsX7_boiling wsX7_isIn := goodIn_r _ [4] (by decide +kernel) (by decide +kernel)
set_option maxRecDepth 20000 in
theorem gX7_boiling_X7_isIn : GoodIn wsX7_boiling (va_wsS RX7 26 yX7_isIn wsX7_isIn) := goodIn_app (goodIn_of _ (by decide +kernel)) ggX7_boiling_X7_isIn
set_option maxRecDepth 20000 in
theorem ggX7_boiling_X7_isThrown : GoodIn wsX7_boiling wsX7_isThrown := goodIn_r _ [8, 9, 13, 14, 15, 16, 17, 18, 19] (by decide +kernel) (by decide +kernel)
set_option maxRecDepth 20000 in
theorem gX7_boiling_X7_isThrown : GoodIn wsX7_boiling (wsV RX7 30 RX7 yX7_isThrown wsX7_isThrown) := goodIn_app (goodIn_of _ (by decide +kernel)) ggX7_boiling_X7_isThrown
set_option maxRecDepth 20000 in
theorem ggX7_boiling_X7_boils : GoodIn wsX7_boiling wsX7_boils := goodIn_r _ [12] (by decide +kernel) (by decide +kernel)
set_option maxRecDepth 20000 in
theorem gX7_boiling_X7_boils : GoodIn wsX7_boiling (va_wsS RX7 155 yX7_boils wsX7_boils) := goodIn_app (goodIn_of _ (by decide +kernel)) ggX7_boiling_X7_boils
theorem dX7_boiling_0 : decode cX7_boiling 0 = .ok (.aload_n 0, 1) := by decide +kernel
theorem dX7_boiling_1 : decode cX7_boiling 1 = .ok (.iload_n 1, 1) := by decide +kernel
theorem dX7_boiling_2 : decode cX7_boiling 2 = .ok (.sipush 700, 3) := by decide +kernel
theorem dX7_boiling_5 : decode cX7_boiling 5 = .ok (.sipush 800, 3) := by decide +kernel
theorem dX7_boiling_8 : decode cX7_boiling 8 = .ok (.invokestatic 26, 3) := by decide +kernel
theorem dX7_boiling_11 : decode cX7_boiling 11 = .ok (.ifCond .ne 7, 3) := by decide +kernel
theorem dX7_boiling_14 : decode cX7_boiling 14 = .ok (.iconst 1, 1) := by decide +kernel
theorem dX7_boiling_15 : decode cX7_boiling 15 = .ok (.goto 4, 3) := by decide +kernel
theorem dX7_boiling_18 : decode cX7_boiling 18 = .ok (.iconst 0, 1) := by decide +kernel
theorem dX7_boiling_19 : decode cX7_boiling 19 = .ok (.iconst 1, 1) := by decide +kernel
theorem dX7_boiling_20 : decode cX7_boiling 20 = .ok (.invokevirtual 30, 3) := by decide +kernel
theorem dX7_boiling_23 : decode cX7_boiling 23 = .ok (.ifCond .eq 7, 3) := by decide +kernel
theorem dX7_boiling_26 : decode cX7_boiling 26 = .ok (.iconst 0, 1) := by decide +kernel
theorem dX7_boiling_27 : decode cX7_boiling 27 = .ok (.goto 7, 3) := by decide +kernel
theorem dX7_boiling_30 : decode cX7_boiling 30 = .ok (.iload_n 1, 1) := by decide +kernel
theorem dX7_boiling_31 : decode cX7_boiling 31 = .ok (.invokestatic 155, 3) := by decide +kernel
theorem dX7_boiling_34 : decode cX7_boiling 34 = .ok (.ireturn, 1) := by decide +kernel
set_option maxRecDepth 20000 in
theorem ggX7_divide_X7_isNone : GoodIn wsX7_divide wsX7_isNone := goodIn_r _ [7, 1, 8, 9, 10, 11, 12, 13, 14, 15, 6, 16, 50, 51, 52, 53, 54, 55, 56, 74, 75, 76] (by decide +kernel) (by decide +kernel)
set_option maxRecDepth 20000 in
theorem gX7_divide_X7_isNone : GoodIn wsX7_divide (wsV RX7 87 RX7 yX7_isNone wsX7_isNone) := goodIn_app (goodIn_of _ (by decide +kernel)) ggX7_divide_X7_isNone
set_option maxRecDepth 20000 in
theorem ggX7_divide_X7_isThrown : GoodIn wsX7_divide wsX7_isThrown := goodIn_r _ [20, 21, 50, 51, 52, 53, 54, 55, 56] (by decide +kernel) (by decide +kernel)
set_option maxRecDepth 20000 in
theorem gX7_divide_X7_isThrown : GoodIn wsX7_divide (wsV RX7 30 RX7 yX7_isThrown wsX7_isThrown) := goodIn_app (goodIn_of _ (by decide +kernel)) ggX7_divide_X7_isThrown
set_option maxRecDepth 20000 in
theorem ggX7_divide_Jx4a65c_get_915e3 : GoodIn wsX7_divide wsJx4a65c_get_915e3 := goodIn_r _ [25, 13, 26, 27, 28, 29, 30, 31, 32, 33, 34, 35, 36, 11, 37, 38, 74, 75, 76] (by decide +kernel) (by decide +kernel)
set_option maxRecDepth 20000 in
theorem gX7_divide_Jx4a65c_get_915e3 : GoodIn wsX7_divide (wsV RX7 62 RJx4a65c yJx4a65c_get_915e3 wsJx4a65c_get_915e3) := goodIn_app (goodIn_of _ (by decide +kernel)) ggX7_divide_Jx4a65c_get_915e3
set_option maxRecDepth 20000 in
theorem ggX7_divide_X7_isEmpty : GoodIn wsX7_divide wsX7_isEmpty := goodIn_r _ [42, 1, 2, 22, 23, 24, 11, 25, 13, 26, 27, 28, 29, 30, 31, 32, 33, 34, 35, 36, 37, 38, 43, 44, 45, 46, 47, 48, 49, 50, 51, 52, 53, 54, 55, 56, 74, 75, 76, 57, 58, 59, 60, 61, 62, 63, 64, 65, 66, 67, 68, 69, 70, 71, 72, 73] (by decide +kernel) (by decide +kernel)
set_option maxRecDepth 20000 in
theorem gX7_divide_X7_isEmpty : GoodIn wsX7_divide (wsV RX7 142 RX7 yX7_isEmpty wsX7_isEmpty) := goodIn_app (goodIn_of _ (by decide +kernel)) ggX7_divide_X7_isEmpty
theorem dX7_divide_0 : decode cX7_divide 0 = .ok (.aload_n 0, 1) := by decide +kernel
theorem dX7_divide_1 : decode cX7_divide 1 = .ok (.aload_n 0, 1) := by decide +kernel
theorem dX7_divide_2 : decode cX7_divide 2 = .ok (.iload_n 1, 1) := by decide +kernel
theorem dX7_divide_3 : decode cX7_divide 3 = .ok (.invokevirtual 87, 3) := by decide +kernel
theorem dX7_divide_6 : decode cX7_divide 6 = .ok (.iconst 1, 1) := by decide +kernel
theorem dX7_divide_7 : decode cX7_divide 7 = .ok (.invokevirtual 30, 3) := by decide +kernel
theorem dX7_divide_10 : decode cX7_divide 10 = .ok (.ifCond .ne 28, 3) := by decide +kernel
theorem dX7_divide_13 : decode cX7_divide 13 = .ok (.aload_n 0, 1) := by decide +kernel
theorem dX7_divide_14 : decode cX7_divide 14 = .ok (.iload_n 2, 1) := by decide +kernel
theorem dX7_divide_15 : decode cX7_divide 15 = .ok (.bipush 108, 2) := by decide +kernel
theorem dX7_divide_17 : decode cX7_divide 17 = .ok (.if_icmp .eq 13, 3) := by decide +kernel
theorem dX7_divide_20 : decode cX7_divide 20 = .ok (.iload_n 2, 1) := by decide +kernel
theorem dX7_divide_21 : decode cX7_divide 21 = .ok (.bipush 118, 2) := by decide +kernel
theorem dX7_divide_23 : decode cX7_divide 23 = .ok (.if_icmp .eq 7, 3) := by decide +kernel
theorem dX7_divide_26 : decode cX7_divide 26 = .ok (.iconst 1, 1) := by decide +kernel
theorem dX7_divide_27 : decode cX7_divide 27 = .ok (.goto 4, 3) := by decide +kernel
theorem dX7_divide_30 : decode cX7_divide 30 = .ok (.iconst 0, 1) := by decide +kernel
theorem dX7_divide_31 : decode cX7_divide 31 = .ok (.iconst 2, 1) := by decide +kernel
theorem dX7_divide_32 : decode cX7_divide 32 = .ok (.invokevirtual 30, 3) := by decide +kernel
theorem dX7_divide_35 : decode cX7_divide 35 = .ok (.ifCond .eq 5, 3) := by decide +kernel
theorem dX7_divide_38 : decode cX7_divide 38 = .ok (.iconst 0, 1) := by decide +kernel
theorem dX7_divide_39 : decode cX7_divide 39 = .ok (.ireturn, 1) := by decide +kernel
theorem dX7_divide_40 : decode cX7_divide 40 = .ok (.aload_n 0, 1) := by decide +kernel
theorem dX7_divide_41 : decode cX7_divide 41 = .ok (.getfield 16, 3) := by decide +kernel
theorem dX7_divide_44 : decode cX7_divide 44 = .ok (.iload_n 1, 1) := by decide +kernel
theorem dX7_divide_45 : decode cX7_divide 45 = .ok (.invokevirtual 62, 3) := by decide +kernel
theorem dX7_divide_48 : decode cX7_divide 48 = .ok (.checkcast 79, 3) := by decide +kernel
theorem dX7_divide_51 : decode cX7_divide 51 = .ok (.astore_n 3, 1) := by decide +kernel
theorem dX7_divide_52 : decode cX7_divide 52 = .ok (.aload_n 0, 1) := by decide +kernel
theorem dX7_divide_53 : decode cX7_divide 53 = .ok (.aload_n 0, 1) := by decide +kernel
theorem dX7_divide_54 : decode cX7_divide 54 = .ok (.iload_n 1, 1) := by decide +kernel
theorem dX7_divide_55 : decode cX7_divide 55 = .ok (.invokevirtual 142, 3) := by decide +kernel
theorem dX7_divide_58 : decode cX7_divide 58 = .ok (.ifCond .ne 30, 3) := by decide +kernel
theorem dX7_divide_61 : decode cX7_divide 61 = .ok (.aload_n 3, 1) := by decide +kernel
theorem dX7_divide_62 : decode cX7_divide 62 = .ok (.getfield 149, 3) := by decide +kernel
theorem dX7_divide_65 : decode cX7_divide 65 = .ok (.iconst (-1), 1) := by decide +kernel
theorem dX7_divide_66 : decode cX7_divide 66 = .ok (.if_icmp .eq 22, 3) := by decide +kernel
theorem dX7_divide_69 : decode cX7_divide 69 = .ok (.aload_n 3, 1) := by decide +kernel
theorem dX7_divide_70 : decode cX7_divide 70 = .ok (.getfield 158, 3) := by decide +kernel
theorem dX7_divide_73 : decode cX7_divide 73 = .ok (.iconst (-1), 1) := by decide +kernel
theorem dX7_divide_74 : decode cX7_divide 74 = .ok (.if_icmp .eq 14, 3) := by decide +kernel
theorem dX7_divide_77 : decode cX7_divide 77 = .ok (.aload_n 3, 1) := by decide +kernel
theorem dX7_divide_78 : decode cX7_divide 78 = .ok (.getfield 149, 3) := by decide +kernel
theorem dX7_divide_81 : decode cX7_divide 81 = .ok (.aload_n 3, 1) := by decide +kernel
theorem dX7_divide_82 : decode cX7_divide 82 = .ok (.getfield 158, 3) := by decide +kernel
theorem dX7_divide_85 : decode cX7_divide 85 = .ok (.if_icmp .ne 7, 3) := by decide +kernel
theorem dX7_divide_88 : decode cX7_divide 88 = .ok (.iconst 1, 1) := by decide +kernel
theorem dX7_divide_89 : decode cX7_divide 89 = .ok (.goto 4, 3) := by decide +kernel
theorem dX7_divide_92 : decode cX7_divide 92 = .ok (.iconst 0, 1) := by decide +kernel
theorem dX7_divide_93 : decode cX7_divide 93 = .ok (.iconst 3, 1) := by decide +kernel
theorem dX7_divide_94 : decode cX7_divide 94 = .ok (.invokevirtual 30, 3) := by decide +kernel
theorem dX7_divide_97 : decode cX7_divide 97 = .ok (.ifCond .eq 5, 3) := by decide +kernel
theorem dX7_divide_100 : decode cX7_divide 100 = .ok (.iconst 0, 1) := by decide +kernel
theorem dX7_divide_101 : decode cX7_divide 101 = .ok (.ireturn, 1) := by decide +kernel
theorem dX7_divide_102 : decode cX7_divide 102 = .ok (.aload_n 3, 1) := by decide +kernel
theorem dX7_divide_103 : decode cX7_divide 103 = .ok (.iload_n 2, 1) := by decide +kernel
theorem dX7_divide_104 : decode cX7_divide 104 = .ok (.putfield 152, 3) := by decide +kernel
theorem dX7_divide_107 : decode cX7_divide 107 = .ok (.aload_n 3, 1) := by decide +kernel
theorem dX7_divide_108 : decode cX7_divide 108 = .ok (.getfield 158, 3) := by decide +kernel
theorem dX7_divide_111 : decode cX7_divide 111 = .ok (.aload_n 3, 1) := by decide +kernel
theorem dX7_divide_112 : decode cX7_divide 112 = .ok (.getfield 149, 3) := by decide +kernel
theorem dX7_divide_115 : decode cX7_divide 115 = .ok (.isub, 1) := by decide +kernel
theorem dX7_divide_116 : decode cX7_divide 116 = .ok (.ireturn, 1) := by decide +kernel
set_option maxRecDepth 20000 in
theorem ggX7_readsAt_X7_isNone : GoodIn wsX7_readsAt wsX7_isNone := goodIn_r _ [7, 1, 8, 9, 10, 11, 12, 13, 14, 15, 6, 16, 58, 59, 60, 61, 62, 63, 64, 82, 83, 84] (by decide +kernel) (by decide +kernel)
set_option maxRecDepth 20000 in
theorem gX7_readsAt_X7_isNone : GoodIn wsX7_readsAt (wsV RX7 87 RX7 yX7_isNone wsX7_isNone) := goodIn_app (goodIn_of _ (by decide +kernel)) ggX7_readsAt_X7_isNone
set_option maxRecDepth 20000 in
theorem ggX7_readsAt_X7_isThrown : GoodIn wsX7_readsAt wsX7_isThrown := goodIn_r _ [20, 21, 58, 59, 60, 61, 62, 63, 64] (by decide +kernel) (by decide +kernel)
set_option maxRecDepth 20000 in
theorem gX7_readsAt_X7_isThrown : GoodIn wsX7_readsAt (wsV RX7 30 RX7 yX7_isThrown wsX7_isThrown) := goodIn_app (goodIn_of _ (by decide +kernel)) ggX7_readsAt_X7_isThrown
set_option maxRecDepth 20000 in
theorem ggX7_readsAt_X7_isNoPlace : GoodIn wsX7_readsAt wsX7_isNoPlace := goodIn_r _ [24, 14, 15, 6, 16] (by decide +kernel) (by decide +kernel)
set_option maxRecDepth 20000 in
theorem gX7_readsAt_X7_isNoPlace : GoodIn wsX7_readsAt (va_wsS RX7 70 yX7_isNoPlace wsX7_isNoPlace) := goodIn_app (goodIn_of _ (by decide +kernel)) ggX7_readsAt_X7_isNoPlace
set_option maxRecDepth 20000 in
theorem ggX7_readsAt_Jx4a65c_get_915e3 : GoodIn wsX7_readsAt wsJx4a65c_get_915e3 := goodIn_r _ [28, 13, 29, 30, 31, 32, 33, 34, 35, 36, 37, 38, 39, 11, 40, 41, 82, 83, 84] (by decide +kernel) (by decide +kernel)
set_option maxRecDepth 20000 in
theorem gX7_readsAt_Jx4a65c_get_915e3 : GoodIn wsX7_readsAt (wsV RX7 62 RJx4a65c yJx4a65c_get_915e3 wsJx4a65c_get_915e3) := goodIn_app (goodIn_of _ (by decide +kernel)) ggX7_readsAt_Jx4a65c_get_915e3
set_option maxRecDepth 20000 in
theorem ggX7_readsAt_X5_readsAt : GoodIn wsX7_readsAt wsX5_readsAt := goodIn_r _ [46, 47, 48, 49, 50, 51, 52, 53, 54, 55, 56, 57, 65, 66, 67, 68, 69, 70, 71, 72, 73, 74, 75, 76, 77, 78, 79, 80, 81, 85, 86] (by decide +kernel) (by decide +kernel)
set_option maxRecDepth 20000 in
theorem gX7_readsAt_X5_readsAt : GoodIn wsX7_readsAt (wsV RX7 164 RX5 yX5_readsAt wsX5_readsAt) := goodIn_app (goodIn_of _ (by decide +kernel)) ggX7_readsAt_X5_readsAt
theorem dX7_readsAt_0 : decode cX7_readsAt 0 = .ok (.aload_n 0, 1) := by decide +kernel
theorem dX7_readsAt_1 : decode cX7_readsAt 1 = .ok (.aload_n 0, 1) := by decide +kernel
theorem dX7_readsAt_2 : decode cX7_readsAt 2 = .ok (.iload_n 1, 1) := by decide +kernel
theorem dX7_readsAt_3 : decode cX7_readsAt 3 = .ok (.invokevirtual 87, 3) := by decide +kernel
theorem dX7_readsAt_6 : decode cX7_readsAt 6 = .ok (.iconst 1, 1) := by decide +kernel
theorem dX7_readsAt_7 : decode cX7_readsAt 7 = .ok (.invokevirtual 30, 3) := by decide +kernel
theorem dX7_readsAt_10 : decode cX7_readsAt 10 = .ok (.ifCond .ne 47, 3) := by decide +kernel
theorem dX7_readsAt_13 : decode cX7_readsAt 13 = .ok (.aload_n 0, 1) := by decide +kernel
theorem dX7_readsAt_14 : decode cX7_readsAt 14 = .ok (.iload_n 2, 1) := by decide +kernel
theorem dX7_readsAt_15 : decode cX7_readsAt 15 = .ok (.invokestatic 70, 3) := by decide +kernel
theorem dX7_readsAt_18 : decode cX7_readsAt 18 = .ok (.iconst 2, 1) := by decide +kernel
theorem dX7_readsAt_19 : decode cX7_readsAt 19 = .ok (.invokevirtual 30, 3) := by decide +kernel
theorem dX7_readsAt_22 : decode cX7_readsAt 22 = .ok (.ifCond .ne 35, 3) := by decide +kernel
theorem dX7_readsAt_25 : decode cX7_readsAt 25 = .ok (.aload_n 0, 1) := by decide +kernel
theorem dX7_readsAt_26 : decode cX7_readsAt 26 = .ok (.aload_n 0, 1) := by decide +kernel
theorem dX7_readsAt_27 : decode cX7_readsAt 27 = .ok (.getfield 16, 3) := by decide +kernel
theorem dX7_readsAt_30 : decode cX7_readsAt 30 = .ok (.iload_n 1, 1) := by decide +kernel
theorem dX7_readsAt_31 : decode cX7_readsAt 31 = .ok (.invokevirtual 62, 3) := by decide +kernel
theorem dX7_readsAt_34 : decode cX7_readsAt 34 = .ok (.checkcast 79, 3) := by decide +kernel
theorem dX7_readsAt_37 : decode cX7_readsAt 37 = .ok (.getfield 152, 3) := by decide +kernel
theorem dX7_readsAt_40 : decode cX7_readsAt 40 = .ok (.bipush 32, 2) := by decide +kernel
theorem dX7_readsAt_42 : decode cX7_readsAt 42 = .ok (.if_icmp .ne 7, 3) := by decide +kernel
theorem dX7_readsAt_45 : decode cX7_readsAt 45 = .ok (.iconst 1, 1) := by decide +kernel
theorem dX7_readsAt_46 : decode cX7_readsAt 46 = .ok (.goto 4, 3) := by decide +kernel
theorem dX7_readsAt_49 : decode cX7_readsAt 49 = .ok (.iconst 0, 1) := by decide +kernel
theorem dX7_readsAt_50 : decode cX7_readsAt 50 = .ok (.iconst 3, 1) := by decide +kernel
theorem dX7_readsAt_51 : decode cX7_readsAt 51 = .ok (.invokevirtual 30, 3) := by decide +kernel
theorem dX7_readsAt_54 : decode cX7_readsAt 54 = .ok (.ifCond .eq 5, 3) := by decide +kernel
theorem dX7_readsAt_57 : decode cX7_readsAt 57 = .ok (.iconst 0, 1) := by decide +kernel
theorem dX7_readsAt_58 : decode cX7_readsAt 58 = .ok (.ireturn, 1) := by decide +kernel
theorem dX7_readsAt_59 : decode cX7_readsAt 59 = .ok (.aload_n 0, 1) := by decide +kernel
theorem dX7_readsAt_60 : decode cX7_readsAt 60 = .ok (.getfield 16, 3) := by decide +kernel
theorem dX7_readsAt_63 : decode cX7_readsAt 63 = .ok (.iload_n 1, 1) := by decide +kernel
theorem dX7_readsAt_64 : decode cX7_readsAt 64 = .ok (.invokevirtual 62, 3) := by decide +kernel
theorem dX7_readsAt_67 : decode cX7_readsAt 67 = .ok (.checkcast 79, 3) := by decide +kernel
theorem dX7_readsAt_70 : decode cX7_readsAt 70 = .ok (.iload_n 2, 1) := by decide +kernel
theorem dX7_readsAt_71 : decode cX7_readsAt 71 = .ok (.invokevirtual 164, 3) := by decide +kernel
theorem dX7_readsAt_74 : decode cX7_readsAt 74 = .ok (.ireturn, 1) := by decide +kernel
set_option maxRecDepth 20000 in
theorem ggX7_bath_X7_isNone : GoodIn wsX7_bath wsX7_isNone := goodIn_r _ [16, 1, 17, 18, 19, 20, 21, 22, 23, 24, 15, 25, 177, 178, 179, 180, 181, 182, 183, 201, 202, 203] (by decide +kernel) (by decide +kernel)
set_option maxRecDepth 20000 in
theorem gX7_bath_X7_isNone : GoodIn wsX7_bath (wsV RX7 87 RX7 yX7_isNone wsX7_isNone) := goodIn_app (goodIn_of _ (by decide +kernel)) ggX7_bath_X7_isNone
set_option maxRecDepth 20000 in
theorem ggX7_bath_X7_isThrown : GoodIn wsX7_bath wsX7_isThrown := goodIn_r _ [29, 30, 177, 178, 179, 180, 181, 182, 183] (by decide +kernel) (by decide +kernel)
set_option maxRecDepth 20000 in
theorem gX7_bath_X7_isThrown : GoodIn wsX7_bath (wsV RX7 30 RX7 yX7_isThrown wsX7_isThrown) := goodIn_app (goodIn_of _ (by decide +kernel)) ggX7_bath_X7_isThrown
set_option maxRecDepth 20000 in
theorem ggX7_bath_X7_isNoHeat : GoodIn wsX7_bath wsX7_isNoHeat := goodIn_r _ [33, 23, 24, 15, 25] (by decide +kernel) (by decide +kernel)
set_option maxRecDepth 20000 in
theorem gX7_bath_X7_isNoHeat : GoodIn wsX7_bath (va_wsS RX7 136 yX7_isNoHeat wsX7_isNoHeat) := goodIn_app (goodIn_of _ (by decide +kernel)) ggX7_bath_X7_isNoHeat
set_option maxRecDepth 20000 in
theorem ggX7_bath_X7_isNoPlace : GoodIn wsX7_bath wsX7_isNoPlace := goodIn_r _ [36, 23, 24, 15, 25] (by decide +kernel) (by decide +kernel)
set_option maxRecDepth 20000 in
theorem gX7_bath_X7_isNoPlace : GoodIn wsX7_bath (va_wsS RX7 70 yX7_isNoPlace wsX7_isNoPlace) := goodIn_app (goodIn_of _ (by decide +kernel)) ggX7_bath_X7_isNoPlace
set_option maxRecDepth 20000 in
theorem ggX7_bath_Jx4a65c_get_915e3 : GoodIn wsX7_bath wsJx4a65c_get_915e3 := goodIn_r _ [40, 22, 41, 42, 43, 44, 45, 46, 47, 48, 49, 50, 51, 20, 52, 53, 201, 202, 203] (by decide +kernel) (by decide +kernel)
set_option maxRecDepth 20000 in
theorem gX7_bath_Jx4a65c_get_915e3 : GoodIn wsX7_bath (wsV RX7 62 RJx4a65c yJx4a65c_get_915e3 wsJx4a65c_get_915e3) := goodIn_app (goodIn_of _ (by decide +kernel)) ggX7_bath_Jx4a65c_get_915e3
set_option maxRecDepth 20000 in
theorem ggX7_bath_X7_isEmpty : GoodIn wsX7_bath wsX7_isEmpty := goodIn_r _ [57, 1, 2, 37, 38, 39, 20, 40, 22, 41, 42, 43, 44, 45, 46, 47, 48, 49, 50, 51, 52, 53, 58, 59, 60, 61, 62, 63, 64, 177, 178, 179, 180, 181, 182, 183, 201, 202, 203, 184, 185, 186, 187, 188, 189, 190, 191, 192, 193, 194, 195, 196, 197, 198, 199, 200] (by decide +kernel) (by decide +kernel)
set_option maxRecDepth 20000 in
theorem gX7_bath_X7_isEmpty : GoodIn wsX7_bath (wsV RX7 142 RX7 yX7_isEmpty wsX7_isEmpty) := goodIn_app (goodIn_of _ (by decide +kernel)) ggX7_bath_X7_isEmpty
set_option maxRecDepth 20000 in
theorem ggX7_bath_X5_level : GoodIn wsX7_bath wsX5_level := goodIn_r _ [68, 69, 70, 71, 72, 73, 74, 75, 76, 77, 61, 78, 63, 79, 80, 81, 82, 83, 84, 85, 86, 87, 88, 184, 185, 186, 187, 188, 189, 190, 191, 192, 193, 194, 195, 196, 197, 198, 199, 200, 204, 205] (by decide +kernel) (by decide +kernel)
set_option maxRecDepth 20000 in
theorem gX7_bath_X5_level : GoodIn wsX7_bath (wsV RX7 145 RX5 yX5_level wsX5_level) := goodIn_app (goodIn_of _ (by decide +kernel)) ggX7_bath_X5_level
set_option maxRecDepth 20000 in
theorem ggX7_bath_X5_readsAt : GoodIn wsX7_bath wsX5_readsAt := goodIn_r _ [92, 93, 94, 74, 95, 96, 83, 84, 85, 86, 87, 88, 184, 185, 186, 187, 188, 189, 190, 191, 192, 193, 194, 195, 196, 197, 198, 199, 200, 204, 205] (by decide +kernel) (by decide +kernel)
set_option maxRecDepth 20000 in
theorem gX7_bath_X5_readsAt : GoodIn wsX7_bath (wsV RX7 164 RX5 yX5_readsAt wsX5_readsAt) := goodIn_app (goodIn_of _ (by decide +kernel)) ggX7_bath_X5_readsAt
set_option maxRecDepth 20000 in
theorem ggX7_bath_Jx4a65c_size_8abf5 : GoodIn wsX7_bath wsJx4a65c_size_8abf5 := goodIn_r _ [21, 22, 201, 202, 203] (by decide +kernel) (by decide +kernel)
set_option maxRecDepth 20000 in
theorem gX7_bath_Jx4a65c_size_8abf5 : GoodIn wsX7_bath (wsV RX7 34 RJx4a65c yJx4a65c_size_8abf5 wsJx4a65c_size_8abf5) := goodIn_app (goodIn_of _ (by decide +kernel)) ggX7_bath_Jx4a65c_size_8abf5
set_option maxRecDepth 20000 in
theorem ggX7_bath_Jx4a65c_remove_915e3 : GoodIn wsX7_bath wsJx4a65c_remove_915e3 := goodIn_r _ [100, 22, 53, 41, 42, 43, 44, 45, 46, 47, 48, 101, 102, 103, 20, 104, 105, 106, 107, 108, 109, 110, 201, 202, 203] (by decide +kernel) (by decide +kernel)
set_option maxRecDepth 20000 in
theorem gX7_bath_Jx4a65c_remove_915e3 : GoodIn wsX7_bath (wsV RX7 179 RJx4a65c yJx4a65c_remove_915e3 wsJx4a65c_remove_915e3) := goodIn_app (goodIn_of _ (by decide +kernel)) ggX7_bath_Jx4a65c_remove_915e3
set_option maxRecDepth 20000 in
theorem ggX7_bath_J6_intValue_8abf5 : GoodIn wsX7_bath wsJ6_intValue_8abf5 := goodIn_r _ [115, 116, 206] (by decide +kernel) (by decide +kernel)
set_option maxRecDepth 20000 in
theorem gX7_bath_J6_intValue_8abf5 : GoodIn wsX7_bath (wsV RX7 184 RJ6 yJ6_intValue_8abf5 wsJ6_intValue_8abf5) := goodIn_app (goodIn_of _ (by decide +kernel)) ggX7_bath_J6_intValue_8abf5
set_option maxRecDepth 20000 in
theorem ggX7_bath_J6_valueOf_2dffe : GoodIn wsX7_bath wsJ6_valueOf_2dffe := goodIn_r _ [119, 120, 121, 122, 123, 114, 124, 125, 126, 116, 127, 128, 129, 130, 131, 132, 133, 206] (by decide +kernel) (by decide +kernel)
set_option maxRecDepth 20000 in
theorem gX7_bath_J6_valueOf_2dffe : GoodIn wsX7_bath (va_wsS RX7 190 yJ6_valueOf_2dffe wsJ6_valueOf_2dffe) := goodIn_app (goodIn_of _ (by decide +kernel)) ggX7_bath_J6_valueOf_2dffe
set_option maxRecDepth 20000 in
theorem ggX7_bath_Jx4a65c_add_9ea2d : GoodIn wsX7_bath wsJx4a65c_add_9ea2d := goodIn_r _ [137, 105, 106, 53, 22, 138, 139, 140, 20, 141, 142, 143, 144, 145, 146, 147, 148, 149, 150, 151, 5, 6, 7, 152, 153, 154, 155, 156, 157, 158, 159, 160, 161, 162, 163, 164, 165, 166, 167, 168, 169, 170, 171, 172, 173, 174, 175, 9, 10, 176, 108, 109, 110, 201, 202, 203] (by decide +kernel) (by decide +kernel)
set_option maxRecDepth 20000 in
theorem gX7_bath_Jx4a65c_add_9ea2d : GoodIn wsX7_bath (wsV RX7 54 RJx4a65c yJx4a65c_add_9ea2d wsJx4a65c_add_9ea2d) := goodIn_app (goodIn_of _ (by decide +kernel)) ggX7_bath_Jx4a65c_add_9ea2d
theorem dX7_bath_0 : decode cX7_bath 0 = .ok (.aload_n 0, 1) := by decide +kernel
theorem dX7_bath_1 : decode cX7_bath 1 = .ok (.aload_n 0, 1) := by decide +kernel
theorem dX7_bath_2 : decode cX7_bath 2 = .ok (.iload_n 1, 1) := by decide +kernel
theorem dX7_bath_3 : decode cX7_bath 3 = .ok (.invokevirtual 87, 3) := by decide +kernel
theorem dX7_bath_6 : decode cX7_bath 6 = .ok (.iconst 1, 1) := by decide +kernel
theorem dX7_bath_7 : decode cX7_bath 7 = .ok (.invokevirtual 30, 3) := by decide +kernel
theorem dX7_bath_10 : decode cX7_bath 10 = .ok (.ifCond .ne 30, 3) := by decide +kernel
theorem dX7_bath_13 : decode cX7_bath 13 = .ok (.aload_n 0, 1) := by decide +kernel
theorem dX7_bath_14 : decode cX7_bath 14 = .ok (.iload_n 2, 1) := by decide +kernel
theorem dX7_bath_15 : decode cX7_bath 15 = .ok (.invokestatic 136, 3) := by decide +kernel
theorem dX7_bath_18 : decode cX7_bath 18 = .ok (.ifCond .ne 10, 3) := by decide +kernel
theorem dX7_bath_21 : decode cX7_bath 21 = .ok (.iload_n 3, 1) := by decide +kernel
theorem dX7_bath_22 : decode cX7_bath 22 = .ok (.invokestatic 70, 3) := by decide +kernel
theorem dX7_bath_25 : decode cX7_bath 25 = .ok (.ifCond .eq 7, 3) := by decide +kernel
theorem dX7_bath_28 : decode cX7_bath 28 = .ok (.iconst 1, 1) := by decide +kernel
theorem dX7_bath_29 : decode cX7_bath 29 = .ok (.goto 4, 3) := by decide +kernel
theorem dX7_bath_32 : decode cX7_bath 32 = .ok (.iconst 0, 1) := by decide +kernel
theorem dX7_bath_33 : decode cX7_bath 33 = .ok (.iconst 2, 1) := by decide +kernel
theorem dX7_bath_34 : decode cX7_bath 34 = .ok (.invokevirtual 30, 3) := by decide +kernel
theorem dX7_bath_37 : decode cX7_bath 37 = .ok (.ifCond .eq 5, 3) := by decide +kernel
theorem dX7_bath_40 : decode cX7_bath 40 = .ok (.iconst 0, 1) := by decide +kernel
theorem dX7_bath_41 : decode cX7_bath 41 = .ok (.ireturn, 1) := by decide +kernel
theorem dX7_bath_42 : decode cX7_bath 42 = .ok (.aload_n 0, 1) := by decide +kernel
theorem dX7_bath_43 : decode cX7_bath 43 = .ok (.getfield 16, 3) := by decide +kernel
theorem dX7_bath_46 : decode cX7_bath 46 = .ok (.iload_n 1, 1) := by decide +kernel
theorem dX7_bath_47 : decode cX7_bath 47 = .ok (.invokevirtual 62, 3) := by decide +kernel
theorem dX7_bath_50 : decode cX7_bath 50 = .ok (.checkcast 79, 3) := by decide +kernel
theorem dX7_bath_53 : decode cX7_bath 53 = .ok (.astore 4, 2) := by decide +kernel
theorem dX7_bath_55 : decode cX7_bath 55 = .ok (.aload_n 0, 1) := by decide +kernel
theorem dX7_bath_56 : decode cX7_bath 56 = .ok (.aload_n 0, 1) := by decide +kernel
theorem dX7_bath_57 : decode cX7_bath 57 = .ok (.iload_n 1, 1) := by decide +kernel
theorem dX7_bath_58 : decode cX7_bath 58 = .ok (.invokevirtual 142, 3) := by decide +kernel
theorem dX7_bath_61 : decode cX7_bath 61 = .ok (.ifCond .ne 13, 3) := by decide +kernel
theorem dX7_bath_64 : decode cX7_bath 64 = .ok (.aload 4, 2) := by decide +kernel
theorem dX7_bath_66 : decode cX7_bath 66 = .ok (.getfield 152, 3) := by decide +kernel
theorem dX7_bath_69 : decode cX7_bath 69 = .ok (.bipush 32, 2) := by decide +kernel
theorem dX7_bath_71 : decode cX7_bath 71 = .ok (.if_icmp .ne 7, 3) := by decide +kernel
theorem dX7_bath_74 : decode cX7_bath 74 = .ok (.iconst 1, 1) := by decide +kernel
theorem dX7_bath_75 : decode cX7_bath 75 = .ok (.goto 4, 3) := by decide +kernel
theorem dX7_bath_78 : decode cX7_bath 78 = .ok (.iconst 0, 1) := by decide +kernel
theorem dX7_bath_79 : decode cX7_bath 79 = .ok (.iconst 3, 1) := by decide +kernel
theorem dX7_bath_80 : decode cX7_bath 80 = .ok (.invokevirtual 30, 3) := by decide +kernel
theorem dX7_bath_83 : decode cX7_bath 83 = .ok (.ifCond .eq 5, 3) := by decide +kernel
theorem dX7_bath_86 : decode cX7_bath 86 = .ok (.iconst 0, 1) := by decide +kernel
theorem dX7_bath_87 : decode cX7_bath 87 = .ok (.ireturn, 1) := by decide +kernel
theorem dX7_bath_88 : decode cX7_bath 88 = .ok (.aload 4, 2) := by decide +kernel
theorem dX7_bath_90 : decode cX7_bath 90 = .ok (.iload_n 2, 1) := by decide +kernel
theorem dX7_bath_91 : decode cX7_bath 91 = .ok (.iload_n 3, 1) := by decide +kernel
theorem dX7_bath_92 : decode cX7_bath 92 = .ok (.aload_n 0, 1) := by decide +kernel
theorem dX7_bath_93 : decode cX7_bath 93 = .ok (.getfield 19, 3) := by decide +kernel
theorem dX7_bath_96 : decode cX7_bath 96 = .ok (.invokevirtual 145, 3) := by decide +kernel
theorem dX7_bath_99 : decode cX7_bath 99 = .ok (.istore 5, 2) := by decide +kernel
theorem dX7_bath_101 : decode cX7_bath 101 = .ok (.aload_n 0, 1) := by decide +kernel
theorem dX7_bath_102 : decode cX7_bath 102 = .ok (.iload 5, 2) := by decide +kernel
theorem dX7_bath_104 : decode cX7_bath 104 = .ok (.iconst (-1), 1) := by decide +kernel
theorem dX7_bath_105 : decode cX7_bath 105 = .ok (.if_icmp .ne 7, 3) := by decide +kernel
theorem dX7_bath_108 : decode cX7_bath 108 = .ok (.iconst 1, 1) := by decide +kernel
theorem dX7_bath_109 : decode cX7_bath 109 = .ok (.goto 4, 3) := by decide +kernel
theorem dX7_bath_112 : decode cX7_bath 112 = .ok (.iconst 0, 1) := by decide +kernel
theorem dX7_bath_113 : decode cX7_bath 113 = .ok (.iconst 4, 1) := by decide +kernel
theorem dX7_bath_114 : decode cX7_bath 114 = .ok (.invokevirtual 30, 3) := by decide +kernel
theorem dX7_bath_117 : decode cX7_bath 117 = .ok (.ifCond .eq 5, 3) := by decide +kernel
theorem dX7_bath_120 : decode cX7_bath 120 = .ok (.iconst 0, 1) := by decide +kernel
theorem dX7_bath_121 : decode cX7_bath 121 = .ok (.ireturn, 1) := by decide +kernel
theorem dX7_bath_122 : decode cX7_bath 122 = .ok (.aload 4, 2) := by decide +kernel
theorem dX7_bath_124 : decode cX7_bath 124 = .ok (.iload_n 2, 1) := by decide +kernel
theorem dX7_bath_125 : decode cX7_bath 125 = .ok (.sipush (-200), 3) := by decide +kernel
theorem dX7_bath_128 : decode cX7_bath 128 = .ok (.if_icmp .gt 7, 3) := by decide +kernel
theorem dX7_bath_131 : decode cX7_bath 131 = .ok (.iconst 0, 1) := by decide +kernel
theorem dX7_bath_132 : decode cX7_bath 132 = .ok (.goto 8, 3) := by decide +kernel
theorem dX7_bath_135 : decode cX7_bath 135 = .ok (.aload 4, 2) := by decide +kernel
theorem dX7_bath_137 : decode cX7_bath 137 = .ok (.getfield 167, 3) := by decide +kernel
theorem dX7_bath_140 : decode cX7_bath 140 = .ok (.putfield 167, 3) := by decide +kernel
theorem dX7_bath_143 : decode cX7_bath 143 = .ok (.aload 4, 2) := by decide +kernel
theorem dX7_bath_145 : decode cX7_bath 145 = .ok (.aload 4, 2) := by decide +kernel
theorem dX7_bath_147 : decode cX7_bath 147 = .ok (.getfield 170, 3) := by decide +kernel
theorem dX7_bath_150 : decode cX7_bath 150 = .ok (.ifCond .eq 16, 3) := by decide +kernel
theorem dX7_bath_153 : decode cX7_bath 153 = .ok (.aload 4, 2) := by decide +kernel
theorem dX7_bath_155 : decode cX7_bath 155 = .ok (.getfield 173, 3) := by decide +kernel
theorem dX7_bath_158 : decode cX7_bath 158 = .ok (.iload 5, 2) := by decide +kernel
theorem dX7_bath_160 : decode cX7_bath 160 = .ok (.invokestatic 51, 3) := by decide +kernel
theorem dX7_bath_163 : decode cX7_bath 163 = .ok (.goto 8, 3) := by decide +kernel
theorem dX7_bath_166 : decode cX7_bath 166 = .ok (.aload 4, 2) := by decide +kernel
theorem dX7_bath_168 : decode cX7_bath 168 = .ok (.getfield 173, 3) := by decide +kernel
theorem dX7_bath_171 : decode cX7_bath 171 = .ok (.putfield 173, 3) := by decide +kernel
theorem dX7_bath_174 : decode cX7_bath 174 = .ok (.aload 4, 2) := by decide +kernel
theorem dX7_bath_176 : decode cX7_bath 176 = .ok (.sipush 200, 3) := by decide +kernel
theorem dX7_bath_179 : decode cX7_bath 179 = .ok (.aload 4, 2) := by decide +kernel
theorem dX7_bath_181 : decode cX7_bath 181 = .ok (.getfield 170, 3) := by decide +kernel
theorem dX7_bath_184 : decode cX7_bath 184 = .ok (.ifCond .eq 11, 3) := by decide +kernel
theorem dX7_bath_187 : decode cX7_bath 187 = .ok (.aload 4, 2) := by decide +kernel
theorem dX7_bath_189 : decode cX7_bath 189 = .ok (.getfield 173, 3) := by decide +kernel
theorem dX7_bath_192 : decode cX7_bath 192 = .ok (.goto 5, 3) := by decide +kernel
theorem dX7_bath_195 : decode cX7_bath 195 = .ok (.iload 5, 2) := by decide +kernel
theorem dX7_bath_197 : decode cX7_bath 197 = .ok (.aload 4, 2) := by decide +kernel
theorem dX7_bath_199 : decode cX7_bath 199 = .ok (.getfield 167, 3) := by decide +kernel
theorem dX7_bath_202 : decode cX7_bath 202 = .ok (.iadd, 1) := by decide +kernel
theorem dX7_bath_203 : decode cX7_bath 203 = .ok (.invokestatic 45, 3) := by decide +kernel
theorem dX7_bath_206 : decode cX7_bath 206 = .ok (.invokevirtual 164, 3) := by decide +kernel
theorem dX7_bath_209 : decode cX7_bath 209 = .ok (.istore 6, 2) := by decide +kernel
theorem dX7_bath_211 : decode cX7_bath 211 = .ok (.aload 4, 2) := by decide +kernel
theorem dX7_bath_213 : decode cX7_bath 213 = .ok (.getfield 176, 3) := by decide +kernel
theorem dX7_bath_216 : decode cX7_bath 216 = .ok (.invokevirtual 34, 3) := by decide +kernel
theorem dX7_bath_219 : decode cX7_bath 219 = .ok (.bipush 8, 2) := by decide +kernel
theorem dX7_bath_221 : decode cX7_bath 221 = .ok (.if_icmp .ne 37, 3) := by decide +kernel
theorem dX7_bath_224 : decode cX7_bath 224 = .ok (.aload 4, 2) := by decide +kernel
theorem dX7_bath_226 : decode cX7_bath 226 = .ok (.getfield 176, 3) := by decide +kernel
theorem dX7_bath_229 : decode cX7_bath 229 = .ok (.iconst 0, 1) := by decide +kernel
theorem dX7_bath_230 : decode cX7_bath 230 = .ok (.invokevirtual 179, 3) := by decide +kernel
theorem dX7_bath_233 : decode cX7_bath 233 = .ok (.checkcast 182, 3) := by decide +kernel
theorem dX7_bath_236 : decode cX7_bath 236 = .ok (.invokevirtual 184, 3) := by decide +kernel
theorem dX7_bath_239 : decode cX7_bath 239 = .ok (.istore 7, 2) := by decide +kernel
theorem dX7_bath_241 : decode cX7_bath 241 = .ok (.aload 4, 2) := by decide +kernel
theorem dX7_bath_243 : decode cX7_bath 243 = .ok (.getfield 187, 3) := by decide +kernel
theorem dX7_bath_246 : decode cX7_bath 246 = .ok (.iconst 0, 1) := by decide +kernel
theorem dX7_bath_247 : decode cX7_bath 247 = .ok (.invokevirtual 179, 3) := by decide +kernel
theorem dX7_bath_250 : decode cX7_bath 250 = .ok (.checkcast 182, 3) := by decide +kernel
theorem dX7_bath_253 : decode cX7_bath 253 = .ok (.invokevirtual 184, 3) := by decide +kernel
theorem dX7_bath_256 : decode cX7_bath 256 = .ok (.istore 8, 2) := by decide +kernel
theorem dX7_bath_258 : decode cX7_bath 258 = .ok (.aload 4, 2) := by decide +kernel
theorem dX7_bath_260 : decode cX7_bath 260 = .ok (.getfield 176, 3) := by decide +kernel
theorem dX7_bath_263 : decode cX7_bath 263 = .ok (.iload 6, 2) := by decide +kernel
theorem dX7_bath_265 : decode cX7_bath 265 = .ok (.invokestatic 190, 3) := by decide +kernel
theorem dX7_bath_268 : decode cX7_bath 268 = .ok (.invokevirtual 54, 3) := by decide +kernel
theorem dX7_bath_271 : decode cX7_bath 271 = .ok (.pop, 1) := by decide +kernel
theorem dX7_bath_272 : decode cX7_bath 272 = .ok (.aload 4, 2) := by decide +kernel
theorem dX7_bath_274 : decode cX7_bath 274 = .ok (.getfield 187, 3) := by decide +kernel
theorem dX7_bath_277 : decode cX7_bath 277 = .ok (.iload_n 2, 1) := by decide +kernel
theorem dX7_bath_278 : decode cX7_bath 278 = .ok (.invokestatic 190, 3) := by decide +kernel
theorem dX7_bath_281 : decode cX7_bath 281 = .ok (.invokevirtual 54, 3) := by decide +kernel
theorem dX7_bath_284 : decode cX7_bath 284 = .ok (.pop, 1) := by decide +kernel
theorem dX7_bath_285 : decode cX7_bath 285 = .ok (.iload_n 2, 1) := by decide +kernel
theorem dX7_bath_286 : decode cX7_bath 286 = .ok (.sipush 2000, 3) := by decide +kernel
theorem dX7_bath_289 : decode cX7_bath 289 = .ok (.if_icmp .le 20, 3) := by decide +kernel
theorem dX7_bath_292 : decode cX7_bath 292 = .ok (.aload 4, 2) := by decide +kernel
theorem dX7_bath_294 : decode cX7_bath 294 = .ok (.dup, 1) := by decide +kernel
theorem dX7_bath_295 : decode cX7_bath 295 = .ok (.getfield 93, 3) := by decide +kernel
theorem dX7_bath_298 : decode cX7_bath 298 = .ok (.iconst 2, 1) := by decide +kernel
theorem dX7_bath_299 : decode cX7_bath 299 = .ok (.idiv, 1) := by decide +kernel
theorem dX7_bath_300 : decode cX7_bath 300 = .ok (.putfield 93, 3) := by decide +kernel
theorem dX7_bath_303 : decode cX7_bath 303 = .ok (.aload 4, 2) := by decide +kernel
theorem dX7_bath_305 : decode cX7_bath 305 = .ok (.iconst (-1), 1) := by decide +kernel
theorem dX7_bath_306 : decode cX7_bath 306 = .ok (.putfield 113, 3) := by decide +kernel
theorem dX7_bath_309 : decode cX7_bath 309 = .ok (.iload 6, 2) := by decide +kernel
theorem dX7_bath_311 : decode cX7_bath 311 = .ok (.ireturn, 1) := by decide +kernel
set_option maxRecDepth 20000 in
theorem ggX7_hasNone_Jx4a65c_get_915e3 : GoodIn wsX7_hasNone wsJx4a65c_get_915e3 := goodIn_r _ [7, 8, 9, 10, 11, 12, 13, 14, 15, 16, 17, 18, 19, 6, 20, 21, 50, 51, 52] (by decide +kernel) (by decide +kernel)
set_option maxRecDepth 20000 in
theorem gX7_hasNone_Jx4a65c_get_915e3 : GoodIn wsX7_hasNone (wsV RX7 62 RJx4a65c yJx4a65c_get_915e3 wsJx4a65c_get_915e3) := goodIn_app (goodIn_of _ (by decide +kernel)) ggX7_hasNone_Jx4a65c_get_915e3
set_option maxRecDepth 20000 in
theorem ggX7_hasNone_Jx4a65c_isEmpty_aae02 : GoodIn wsX7_hasNone wsJx4a65c_isEmpty_aae02 := goodIn_r _ [25, 8, 50, 51, 52] (by decide +kernel) (by decide +kernel)
set_option maxRecDepth 20000 in
theorem gX7_hasNone_Jx4a65c_isEmpty_aae02 : GoodIn wsX7_hasNone (wsV RX7 194 RJx4a65c yJx4a65c_isEmpty_aae02 wsJx4a65c_isEmpty_aae02) := goodIn_app (goodIn_of _ (by decide +kernel)) ggX7_hasNone_Jx4a65c_isEmpty_aae02
theorem dX7_hasNone_0 : decode cX7_hasNone 0 = .ok (.aload_n 0, 1) := by decide +kernel
theorem dX7_hasNone_1 : decode cX7_hasNone 1 = .ok (.getfield 16, 3) := by decide +kernel
theorem dX7_hasNone_4 : decode cX7_hasNone 4 = .ok (.iload_n 1, 1) := by decide +kernel
theorem dX7_hasNone_5 : decode cX7_hasNone 5 = .ok (.invokevirtual 62, 3) := by decide +kernel
theorem dX7_hasNone_8 : decode cX7_hasNone 8 = .ok (.checkcast 79, 3) := by decide +kernel
theorem dX7_hasNone_11 : decode cX7_hasNone 11 = .ok (.getfield 176, 3) := by decide +kernel
theorem dX7_hasNone_14 : decode cX7_hasNone 14 = .ok (.invokevirtual 194, 3) := by decide +kernel
theorem dX7_hasNone_17 : decode cX7_hasNone 17 = .ok (.ireturn, 1) := by decide +kernel
set_option maxRecDepth 20000 in
theorem ggX7_error_X7_isNone : GoodIn wsX7_error wsX7_isNone := goodIn_r _ [7, 1, 8, 9, 10, 11, 12, 13, 14, 15, 6, 16, 62, 63, 64, 65, 66, 67, 68, 86, 87, 88] (by decide +kernel) (by decide +kernel)
set_option maxRecDepth 20000 in
theorem gX7_error_X7_isNone : GoodIn wsX7_error (wsV RX7 87 RX7 yX7_isNone wsX7_isNone) := goodIn_app (goodIn_of _ (by decide +kernel)) ggX7_error_X7_isNone
set_option maxRecDepth 20000 in
theorem ggX7_error_X7_isThrown : GoodIn wsX7_error wsX7_isThrown := goodIn_r _ [20, 21, 62, 63, 64, 65, 66, 67, 68] (by decide +kernel) (by decide +kernel)
set_option maxRecDepth 20000 in
theorem gX7_error_X7_isThrown : GoodIn wsX7_error (wsV RX7 30 RX7 yX7_isThrown wsX7_isThrown) := goodIn_app (goodIn_of _ (by decide +kernel)) ggX7_error_X7_isThrown
set_option maxRecDepth 20000 in
theorem ggX7_error_X7_hasNone : GoodIn wsX7_error wsX7_hasNone := goodIn_r _ [25, 1, 2, 26, 27, 28, 11, 29, 13, 30, 31, 32, 33, 34, 35, 36, 37, 38, 39, 40, 41, 42, 43, 44, 45, 46, 62, 63, 64, 65, 66, 67, 68, 69, 70, 71, 72, 73, 74, 75, 76, 77, 78, 79, 80, 81, 82, 83, 84, 85, 86, 87, 88] (by decide +kernel) (by decide +kernel)
set_option maxRecDepth 20000 in
theorem gX7_error_X7_hasNone : GoodIn wsX7_error (wsV RX7 196 RX7 yX7_hasNone wsX7_hasNone) := goodIn_app (goodIn_of _ (by decide +kernel)) ggX7_error_X7_hasNone
set_option maxRecDepth 20000 in
theorem ggX7_error_Jx4a65c_get_915e3 : GoodIn wsX7_error wsJx4a65c_get_915e3 := goodIn_r _ [29, 13, 30, 31, 32, 33, 34, 35, 36, 37, 38, 39, 40, 11, 41, 42, 86, 87, 88] (by decide +kernel) (by decide +kernel)
set_option maxRecDepth 20000 in
theorem gX7_error_Jx4a65c_get_915e3 : GoodIn wsX7_error (wsV RX7 62 RJx4a65c yJx4a65c_get_915e3 wsJx4a65c_get_915e3) := goodIn_app (goodIn_of _ (by decide +kernel)) ggX7_error_Jx4a65c_get_915e3
set_option maxRecDepth 20000 in
theorem ggX7_error_Jx4a65c_size_8abf5 : GoodIn wsX7_error wsJx4a65c_size_8abf5 := goodIn_r _ [12, 13, 86, 87, 88] (by decide +kernel) (by decide +kernel)
set_option maxRecDepth 20000 in
theorem gX7_error_Jx4a65c_size_8abf5 : GoodIn wsX7_error (wsV RX7 34 RJx4a65c yJx4a65c_size_8abf5 wsJx4a65c_size_8abf5) := goodIn_app (goodIn_of _ (by decide +kernel)) ggX7_error_Jx4a65c_size_8abf5
set_option maxRecDepth 20000 in
theorem ggX7_error_X5_errorAt : GoodIn wsX7_error wsX5_errorAt := goodIn_r _ [51, 52, 53, 54, 55, 27, 28, 11, 29, 13, 30, 31, 32, 33, 34, 35, 36, 37, 38, 39, 40, 41, 42, 56, 57, 58, 59, 60, 61, 69, 70, 71, 72, 73, 74, 75, 76, 77, 78, 79, 80, 81, 82, 83, 84, 85, 86, 87, 88, 89] (by decide +kernel) (by decide +kernel)
set_option maxRecDepth 20000 in
theorem gX7_error_X5_errorAt : GoodIn wsX7_error (wsV RX7 199 RX5 yX5_errorAt wsX5_errorAt) := goodIn_app (goodIn_of _ (by decide +kernel)) ggX7_error_X5_errorAt
theorem dX7_error_0 : decode cX7_error 0 = .ok (.aload_n 0, 1) := by decide +kernel
theorem dX7_error_1 : decode cX7_error 1 = .ok (.aload_n 0, 1) := by decide +kernel
theorem dX7_error_2 : decode cX7_error 2 = .ok (.iload_n 1, 1) := by decide +kernel
theorem dX7_error_3 : decode cX7_error 3 = .ok (.invokevirtual 87, 3) := by decide +kernel
theorem dX7_error_6 : decode cX7_error 6 = .ok (.iconst 1, 1) := by decide +kernel
theorem dX7_error_7 : decode cX7_error 7 = .ok (.invokevirtual 30, 3) := by decide +kernel
theorem dX7_error_10 : decode cX7_error 10 = .ok (.ifCond .ne 16, 3) := by decide +kernel
theorem dX7_error_13 : decode cX7_error 13 = .ok (.aload_n 0, 1) := by decide +kernel
theorem dX7_error_14 : decode cX7_error 14 = .ok (.aload_n 0, 1) := by decide +kernel
theorem dX7_error_15 : decode cX7_error 15 = .ok (.iload_n 1, 1) := by decide +kernel
theorem dX7_error_16 : decode cX7_error 16 = .ok (.invokevirtual 196, 3) := by decide +kernel
theorem dX7_error_19 : decode cX7_error 19 = .ok (.iconst 2, 1) := by decide +kernel
theorem dX7_error_20 : decode cX7_error 20 = .ok (.invokevirtual 30, 3) := by decide +kernel
theorem dX7_error_23 : decode cX7_error 23 = .ok (.ifCond .eq 5, 3) := by decide +kernel
theorem dX7_error_26 : decode cX7_error 26 = .ok (.iconst 0, 1) := by decide +kernel
theorem dX7_error_27 : decode cX7_error 27 = .ok (.ireturn, 1) := by decide +kernel
theorem dX7_error_28 : decode cX7_error 28 = .ok (.aload_n 0, 1) := by decide +kernel
theorem dX7_error_29 : decode cX7_error 29 = .ok (.getfield 16, 3) := by decide +kernel
theorem dX7_error_32 : decode cX7_error 32 = .ok (.iload_n 1, 1) := by decide +kernel
theorem dX7_error_33 : decode cX7_error 33 = .ok (.invokevirtual 62, 3) := by decide +kernel
theorem dX7_error_36 : decode cX7_error 36 = .ok (.checkcast 79, 3) := by decide +kernel
theorem dX7_error_39 : decode cX7_error 39 = .ok (.aload_n 0, 1) := by decide +kernel
theorem dX7_error_40 : decode cX7_error 40 = .ok (.getfield 16, 3) := by decide +kernel
theorem dX7_error_43 : decode cX7_error 43 = .ok (.iload_n 1, 1) := by decide +kernel
theorem dX7_error_44 : decode cX7_error 44 = .ok (.invokevirtual 62, 3) := by decide +kernel
theorem dX7_error_47 : decode cX7_error 47 = .ok (.checkcast 79, 3) := by decide +kernel
theorem dX7_error_50 : decode cX7_error 50 = .ok (.getfield 176, 3) := by decide +kernel
theorem dX7_error_53 : decode cX7_error 53 = .ok (.invokevirtual 34, 3) := by decide +kernel
theorem dX7_error_56 : decode cX7_error 56 = .ok (.iconst 1, 1) := by decide +kernel
theorem dX7_error_57 : decode cX7_error 57 = .ok (.isub, 1) := by decide +kernel
theorem dX7_error_58 : decode cX7_error 58 = .ok (.invokevirtual 199, 3) := by decide +kernel
theorem dX7_error_61 : decode cX7_error 61 = .ok (.ireturn, 1) := by decide +kernel
set_option maxRecDepth 20000 in
theorem ggX7_tests_X7_isNone : GoodIn wsX7_tests wsX7_isNone := goodIn_r _ [7, 1, 8, 9, 10, 11, 12, 13, 14, 15, 6, 16, 39, 40, 41, 42, 43, 44, 45, 63, 64, 65] (by decide +kernel) (by decide +kernel)
set_option maxRecDepth 20000 in
theorem gX7_tests_X7_isNone : GoodIn wsX7_tests (wsV RX7 87 RX7 yX7_isNone wsX7_isNone) := goodIn_app (goodIn_of _ (by decide +kernel)) ggX7_tests_X7_isNone
set_option maxRecDepth 20000 in
theorem ggX7_tests_X7_isThrown : GoodIn wsX7_tests wsX7_isThrown := goodIn_r _ [20, 21, 39, 40, 41, 42, 43, 44, 45] (by decide +kernel) (by decide +kernel)
set_option maxRecDepth 20000 in
theorem gX7_tests_X7_isThrown : GoodIn wsX7_tests (wsV RX7 30 RX7 yX7_isThrown wsX7_isThrown) := goodIn_app (goodIn_of _ (by decide +kernel)) ggX7_tests_X7_isThrown
set_option maxRecDepth 20000 in
theorem ggX7_tests_Jx4a65c_get_915e3 : GoodIn wsX7_tests wsJx4a65c_get_915e3 := goodIn_r _ [25, 13, 26, 27, 28, 29, 30, 31, 32, 33, 34, 35, 36, 11, 37, 38, 63, 64, 65] (by decide +kernel) (by decide +kernel)
set_option maxRecDepth 20000 in
theorem gX7_tests_Jx4a65c_get_915e3 : GoodIn wsX7_tests (wsV RX7 62 RJx4a65c yJx4a65c_get_915e3 wsJx4a65c_get_915e3) := goodIn_app (goodIn_of _ (by decide +kernel)) ggX7_tests_Jx4a65c_get_915e3
set_option maxRecDepth 20000 in
theorem ggX7_tests_Jx4a65c_size_8abf5 : GoodIn wsX7_tests wsJx4a65c_size_8abf5 := goodIn_r _ [12, 13, 63, 64, 65] (by decide +kernel) (by decide +kernel)
set_option maxRecDepth 20000 in
theorem gX7_tests_Jx4a65c_size_8abf5 : GoodIn wsX7_tests (wsV RX7 34 RJx4a65c yJx4a65c_size_8abf5 wsJx4a65c_size_8abf5) := goodIn_app (goodIn_of _ (by decide +kernel)) ggX7_tests_Jx4a65c_size_8abf5
theorem dX7_tests_0 : decode cX7_tests 0 = .ok (.aload_n 0, 1) := by decide +kernel
theorem dX7_tests_1 : decode cX7_tests 1 = .ok (.aload_n 0, 1) := by decide +kernel
theorem dX7_tests_2 : decode cX7_tests 2 = .ok (.iload_n 1, 1) := by decide +kernel
theorem dX7_tests_3 : decode cX7_tests 3 = .ok (.invokevirtual 87, 3) := by decide +kernel
theorem dX7_tests_6 : decode cX7_tests 6 = .ok (.iconst 1, 1) := by decide +kernel
theorem dX7_tests_7 : decode cX7_tests 7 = .ok (.invokevirtual 30, 3) := by decide +kernel
theorem dX7_tests_10 : decode cX7_tests 10 = .ok (.ifCond .eq 7, 3) := by decide +kernel
theorem dX7_tests_13 : decode cX7_tests 13 = .ok (.iconst 0, 1) := by decide +kernel
theorem dX7_tests_14 : decode cX7_tests 14 = .ok (.goto 20, 3) := by decide +kernel
theorem dX7_tests_17 : decode cX7_tests 17 = .ok (.aload_n 0, 1) := by decide +kernel
theorem dX7_tests_18 : decode cX7_tests 18 = .ok (.getfield 16, 3) := by decide +kernel
theorem dX7_tests_21 : decode cX7_tests 21 = .ok (.iload_n 1, 1) := by decide +kernel
theorem dX7_tests_22 : decode cX7_tests 22 = .ok (.invokevirtual 62, 3) := by decide +kernel
theorem dX7_tests_25 : decode cX7_tests 25 = .ok (.checkcast 79, 3) := by decide +kernel
theorem dX7_tests_28 : decode cX7_tests 28 = .ok (.getfield 176, 3) := by decide +kernel
theorem dX7_tests_31 : decode cX7_tests 31 = .ok (.invokevirtual 34, 3) := by decide +kernel
theorem dX7_tests_34 : decode cX7_tests 34 = .ok (.ireturn, 1) := by decide +kernel
set_option maxRecDepth 20000 in
theorem ggX7_begin_X7_isNone : GoodIn wsX7_begin wsX7_isNone := goodIn_r _ [7, 1, 8, 9, 10, 11, 12, 13, 14, 15, 6, 16, 45, 46, 47, 48, 49, 50, 51, 69, 70, 71] (by decide +kernel) (by decide +kernel)
set_option maxRecDepth 20000 in
theorem gX7_begin_X7_isNone : GoodIn wsX7_begin (wsV RX7 87 RX7 yX7_isNone wsX7_isNone) := goodIn_app (goodIn_of _ (by decide +kernel)) ggX7_begin_X7_isNone
set_option maxRecDepth 20000 in
theorem ggX7_begin_X7_isThrown : GoodIn wsX7_begin wsX7_isThrown := goodIn_r _ [20, 21, 45, 46, 47, 48, 49, 50, 51] (by decide +kernel) (by decide +kernel)
set_option maxRecDepth 20000 in
theorem gX7_begin_X7_isThrown : GoodIn wsX7_begin (wsV RX7 30 RX7 yX7_isThrown wsX7_isThrown) := goodIn_app (goodIn_of _ (by decide +kernel)) ggX7_begin_X7_isThrown
set_option maxRecDepth 20000 in
theorem ggX7_begin_Jx4a65c_get_915e3 : GoodIn wsX7_begin wsJx4a65c_get_915e3 := goodIn_r _ [25, 13, 26, 27, 28, 29, 30, 31, 32, 33, 34, 35, 36, 11, 37, 38, 69, 70, 71] (by decide +kernel) (by decide +kernel)
set_option maxRecDepth 20000 in
theorem gX7_begin_Jx4a65c_get_915e3 : GoodIn wsX7_begin (wsV RX7 62 RJx4a65c yJx4a65c_get_915e3 wsJx4a65c_get_915e3) := goodIn_app (goodIn_of _ (by decide +kernel)) ggX7_begin_Jx4a65c_get_915e3
set_option maxRecDepth 20000 in
theorem ggX7_begin_Jx4a65c_size_8abf5 : GoodIn wsX7_begin wsJx4a65c_size_8abf5 := goodIn_r _ [12, 13, 69, 70, 71] (by decide +kernel) (by decide +kernel)
set_option maxRecDepth 20000 in
theorem gX7_begin_Jx4a65c_size_8abf5 : GoodIn wsX7_begin (wsV RX7 34 RJx4a65c yJx4a65c_size_8abf5 wsJx4a65c_size_8abf5) := goodIn_app (goodIn_of _ (by decide +kernel)) ggX7_begin_Jx4a65c_size_8abf5
set_option maxRecDepth 20000 in
theorem ggX7_begin_Jx4a65c_clear_da8c8 : GoodIn wsX7_begin wsJx4a65c_clear_da8c8 := goodIn_r _ [42, 43, 44, 38, 13, 69, 70, 71] (by decide +kernel) (by decide +kernel)
set_option maxRecDepth 20000 in
theorem gX7_begin_Jx4a65c_clear_da8c8 : GoodIn wsX7_begin (wsV RX7 202 RJx4a65c yJx4a65c_clear_da8c8 wsJx4a65c_clear_da8c8) := goodIn_app (goodIn_of _ (by decide +kernel)) ggX7_begin_Jx4a65c_clear_da8c8
theorem dX7_begin_0 : decode cX7_begin 0 = .ok (.aload_n 0, 1) := by decide +kernel
theorem dX7_begin_1 : decode cX7_begin 1 = .ok (.aload_n 0, 1) := by decide +kernel
theorem dX7_begin_2 : decode cX7_begin 2 = .ok (.iload_n 1, 1) := by decide +kernel
theorem dX7_begin_3 : decode cX7_begin 3 = .ok (.invokevirtual 87, 3) := by decide +kernel
theorem dX7_begin_6 : decode cX7_begin 6 = .ok (.iconst 1, 1) := by decide +kernel
theorem dX7_begin_7 : decode cX7_begin 7 = .ok (.invokevirtual 30, 3) := by decide +kernel
theorem dX7_begin_10 : decode cX7_begin 10 = .ok (.ifCond .eq 5, 3) := by decide +kernel
theorem dX7_begin_13 : decode cX7_begin 13 = .ok (.iconst 0, 1) := by decide +kernel
theorem dX7_begin_14 : decode cX7_begin 14 = .ok (.ireturn, 1) := by decide +kernel
theorem dX7_begin_15 : decode cX7_begin 15 = .ok (.aload_n 0, 1) := by decide +kernel
theorem dX7_begin_16 : decode cX7_begin 16 = .ok (.getfield 16, 3) := by decide +kernel
theorem dX7_begin_19 : decode cX7_begin 19 = .ok (.iload_n 1, 1) := by decide +kernel
theorem dX7_begin_20 : decode cX7_begin 20 = .ok (.invokevirtual 62, 3) := by decide +kernel
theorem dX7_begin_23 : decode cX7_begin 23 = .ok (.checkcast 79, 3) := by decide +kernel
theorem dX7_begin_26 : decode cX7_begin 26 = .ok (.getfield 176, 3) := by decide +kernel
theorem dX7_begin_29 : decode cX7_begin 29 = .ok (.invokevirtual 34, 3) := by decide +kernel
theorem dX7_begin_32 : decode cX7_begin 32 = .ok (.istore_n 2, 1) := by decide +kernel
theorem dX7_begin_33 : decode cX7_begin 33 = .ok (.aload_n 0, 1) := by decide +kernel
theorem dX7_begin_34 : decode cX7_begin 34 = .ok (.getfield 16, 3) := by decide +kernel
theorem dX7_begin_37 : decode cX7_begin 37 = .ok (.iload_n 1, 1) := by decide +kernel
theorem dX7_begin_38 : decode cX7_begin 38 = .ok (.invokevirtual 62, 3) := by decide +kernel
theorem dX7_begin_41 : decode cX7_begin 41 = .ok (.checkcast 79, 3) := by decide +kernel
theorem dX7_begin_44 : decode cX7_begin 44 = .ok (.getfield 176, 3) := by decide +kernel
theorem dX7_begin_47 : decode cX7_begin 47 = .ok (.invokevirtual 202, 3) := by decide +kernel
theorem dX7_begin_50 : decode cX7_begin 50 = .ok (.aload_n 0, 1) := by decide +kernel
theorem dX7_begin_51 : decode cX7_begin 51 = .ok (.getfield 16, 3) := by decide +kernel
theorem dX7_begin_54 : decode cX7_begin 54 = .ok (.iload_n 1, 1) := by decide +kernel
theorem dX7_begin_55 : decode cX7_begin 55 = .ok (.invokevirtual 62, 3) := by decide +kernel
theorem dX7_begin_58 : decode cX7_begin 58 = .ok (.checkcast 79, 3) := by decide +kernel
theorem dX7_begin_61 : decode cX7_begin 61 = .ok (.getfield 187, 3) := by decide +kernel
theorem dX7_begin_64 : decode cX7_begin 64 = .ok (.invokevirtual 202, 3) := by decide +kernel
theorem dX7_begin_67 : decode cX7_begin 67 = .ok (.iload_n 2, 1) := by decide +kernel
theorem dX7_begin_68 : decode cX7_begin 68 = .ok (.ireturn, 1) := by decide +kernel
set_option maxRecDepth 20000 in
theorem ggX7_worst_X7_isNone : GoodIn wsX7_worst wsX7_isNone := goodIn_r _ [7, 1, 8, 9, 10, 11, 12, 13, 14, 15, 6, 16, 74, 75, 76, 77, 78, 79, 80, 81, 82, 83] (by decide +kernel) (by decide +kernel)
set_option maxRecDepth 20000 in
theorem gX7_worst_X7_isNone : GoodIn wsX7_worst (wsV RX7 87 RX7 yX7_isNone wsX7_isNone) := goodIn_app (goodIn_of _ (by decide +kernel)) ggX7_worst_X7_isNone
set_option maxRecDepth 20000 in
theorem ggX7_worst_X7_isThrown : GoodIn wsX7_worst wsX7_isThrown := goodIn_r _ [20, 21, 74, 75, 76, 77, 78, 79, 80] (by decide +kernel) (by decide +kernel)
set_option maxRecDepth 20000 in
theorem gX7_worst_X7_isThrown : GoodIn wsX7_worst (wsV RX7 30 RX7 yX7_isThrown wsX7_isThrown) := goodIn_app (goodIn_of _ (by decide +kernel)) ggX7_worst_X7_isThrown
set_option maxRecDepth 20000 in
theorem ggX7_worst_X7_hasNone : GoodIn wsX7_worst wsX7_hasNone := goodIn_r _ [25, 1, 2, 26, 27, 28, 11, 29, 13, 30, 31, 32, 33, 34, 35, 36, 37, 38, 39, 40, 41, 42, 43, 44, 45, 46, 74, 75, 76, 77, 78, 79, 80, 84, 85, 86, 87, 88, 89, 90, 91, 92, 93, 94, 95, 96, 97, 98, 99, 100, 81, 82, 83] (by decide +kernel) (by decide +kernel)
set_option maxRecDepth 20000 in
theorem gX7_worst_X7_hasNone : GoodIn wsX7_worst (wsV RX7 196 RX7 yX7_hasNone wsX7_hasNone) := goodIn_app (goodIn_of _ (by decide +kernel)) ggX7_worst_X7_hasNone
set_option maxRecDepth 20000 in
theorem ggX7_worst_Jx4a65c_get_915e3 : GoodIn wsX7_worst wsJx4a65c_get_915e3 := goodIn_r _ [29, 13, 30, 31, 32, 33, 34, 35, 36, 37, 38, 39, 40, 11, 41, 42, 81, 82, 83] (by decide +kernel) (by decide +kernel)
set_option maxRecDepth 20000 in
theorem gX7_worst_Jx4a65c_get_915e3 : GoodIn wsX7_worst (wsV RX7 62 RJx4a65c yJx4a65c_get_915e3 wsJx4a65c_get_915e3) := goodIn_app (goodIn_of _ (by decide +kernel)) ggX7_worst_Jx4a65c_get_915e3
set_option maxRecDepth 20000 in
theorem ggX7_worst_X5_worst : GoodIn wsX7_worst wsX5_worst := goodIn_r _ [51, 52, 53, 54, 55, 56, 57, 58, 59, 60, 9, 10, 11, 12, 13, 61, 62, 63, 50, 64, 65, 66, 67, 27, 28, 29, 30, 31, 32, 33, 34, 35, 36, 37, 38, 39, 40, 41, 42, 68, 69, 70, 71, 72, 73, 84, 85, 86, 87, 88, 89, 90, 91, 92, 93, 94, 95, 96, 97, 98, 99, 100, 81, 82, 83, 101] (by decide +kernel) (by decide +kernel)
set_option maxRecDepth 20000 in
theorem gX7_worst_X5_worst : GoodIn wsX7_worst (wsV RX7 205 RX5 yX5_worst wsX5_worst) := goodIn_app (goodIn_of _ (by decide +kernel)) ggX7_worst_X5_worst
theorem dX7_worst_0 : decode cX7_worst 0 = .ok (.aload_n 0, 1) := by decide +kernel
theorem dX7_worst_1 : decode cX7_worst 1 = .ok (.aload_n 0, 1) := by decide +kernel
theorem dX7_worst_2 : decode cX7_worst 2 = .ok (.iload_n 1, 1) := by decide +kernel
theorem dX7_worst_3 : decode cX7_worst 3 = .ok (.invokevirtual 87, 3) := by decide +kernel
theorem dX7_worst_6 : decode cX7_worst 6 = .ok (.iconst 1, 1) := by decide +kernel
theorem dX7_worst_7 : decode cX7_worst 7 = .ok (.invokevirtual 30, 3) := by decide +kernel
theorem dX7_worst_10 : decode cX7_worst 10 = .ok (.ifCond .ne 16, 3) := by decide +kernel
theorem dX7_worst_13 : decode cX7_worst 13 = .ok (.aload_n 0, 1) := by decide +kernel
theorem dX7_worst_14 : decode cX7_worst 14 = .ok (.aload_n 0, 1) := by decide +kernel
theorem dX7_worst_15 : decode cX7_worst 15 = .ok (.iload_n 1, 1) := by decide +kernel
theorem dX7_worst_16 : decode cX7_worst 16 = .ok (.invokevirtual 196, 3) := by decide +kernel
theorem dX7_worst_19 : decode cX7_worst 19 = .ok (.iconst 2, 1) := by decide +kernel
theorem dX7_worst_20 : decode cX7_worst 20 = .ok (.invokevirtual 30, 3) := by decide +kernel
theorem dX7_worst_23 : decode cX7_worst 23 = .ok (.ifCond .eq 7, 3) := by decide +kernel
theorem dX7_worst_26 : decode cX7_worst 26 = .ok (.iconst 0, 1) := by decide +kernel
theorem dX7_worst_27 : decode cX7_worst 27 = .ok (.goto 17, 3) := by decide +kernel
theorem dX7_worst_30 : decode cX7_worst 30 = .ok (.aload_n 0, 1) := by decide +kernel
theorem dX7_worst_31 : decode cX7_worst 31 = .ok (.getfield 16, 3) := by decide +kernel
theorem dX7_worst_34 : decode cX7_worst 34 = .ok (.iload_n 1, 1) := by decide +kernel
theorem dX7_worst_35 : decode cX7_worst 35 = .ok (.invokevirtual 62, 3) := by decide +kernel
theorem dX7_worst_38 : decode cX7_worst 38 = .ok (.checkcast 79, 3) := by decide +kernel
theorem dX7_worst_41 : decode cX7_worst 41 = .ok (.invokevirtual 205, 3) := by decide +kernel
theorem dX7_worst_44 : decode cX7_worst 44 = .ok (.ireturn, 1) := by decide +kernel
set_option maxRecDepth 20000 in
theorem ggX7_isFew_Jx4a65c_get_915e3 : GoodIn wsX7_isFew wsJx4a65c_get_915e3 := goodIn_r _ [7, 8, 9, 10, 11, 12, 13, 14, 15, 16, 17, 18, 19, 6, 20, 21, 50, 51, 52] (by decide +kernel) (by decide +kernel)
set_option maxRecDepth 20000 in
theorem gX7_isFew_Jx4a65c_get_915e3 : GoodIn wsX7_isFew (wsV RX7 62 RJx4a65c yJx4a65c_get_915e3 wsJx4a65c_get_915e3) := goodIn_app (goodIn_of _ (by decide +kernel)) ggX7_isFew_Jx4a65c_get_915e3
set_option maxRecDepth 20000 in
theorem ggX7_isFew_Jx4a65c_size_8abf5 : GoodIn wsX7_isFew wsJx4a65c_size_8abf5 := goodIn_r _ [25, 8, 50, 51, 52] (by decide +kernel) (by decide +kernel)
set_option maxRecDepth 20000 in
theorem gX7_isFew_Jx4a65c_size_8abf5 : GoodIn wsX7_isFew (wsV RX7 34 RJx4a65c yJx4a65c_size_8abf5 wsJx4a65c_size_8abf5) := goodIn_app (goodIn_of _ (by decide +kernel)) ggX7_isFew_Jx4a65c_size_8abf5
theorem dX7_isFew_0 : decode cX7_isFew 0 = .ok (.aload_n 0, 1) := by decide +kernel
theorem dX7_isFew_1 : decode cX7_isFew 1 = .ok (.getfield 16, 3) := by decide +kernel
theorem dX7_isFew_4 : decode cX7_isFew 4 = .ok (.iload_n 1, 1) := by decide +kernel
theorem dX7_isFew_5 : decode cX7_isFew 5 = .ok (.invokevirtual 62, 3) := by decide +kernel
theorem dX7_isFew_8 : decode cX7_isFew 8 = .ok (.checkcast 79, 3) := by decide +kernel
theorem dX7_isFew_11 : decode cX7_isFew 11 = .ok (.getfield 176, 3) := by decide +kernel
theorem dX7_isFew_14 : decode cX7_isFew 14 = .ok (.invokevirtual 34, 3) := by decide +kernel
theorem dX7_isFew_17 : decode cX7_isFew 17 = .ok (.iconst 3, 1) := by decide +kernel
theorem dX7_isFew_18 : decode cX7_isFew 18 = .ok (.if_icmp .ge 7, 3) := by decide +kernel
theorem dX7_isFew_21 : decode cX7_isFew 21 = .ok (.iconst 1, 1) := by decide +kernel
theorem dX7_isFew_22 : decode cX7_isFew 22 = .ok (.goto 4, 3) := by decide +kernel
theorem dX7_isFew_25 : decode cX7_isFew 25 = .ok (.iconst 0, 1) := by decide +kernel
theorem dX7_isFew_26 : decode cX7_isFew 26 = .ok (.ireturn, 1) := by decide +kernel
set_option maxRecDepth 20000 in
theorem ggX7_grade_X7_isNone : GoodIn wsX7_grade wsX7_isNone := goodIn_r _ [7, 1, 8, 9, 10, 11, 12, 13, 14, 15, 6, 16, 74, 75, 76, 77, 78, 79, 80, 81, 82, 83] (by decide +kernel) (by decide +kernel)
set_option maxRecDepth 20000 in
theorem gX7_grade_X7_isNone : GoodIn wsX7_grade (wsV RX7 87 RX7 yX7_isNone wsX7_isNone) := goodIn_app (goodIn_of _ (by decide +kernel)) ggX7_grade_X7_isNone
set_option maxRecDepth 20000 in
theorem ggX7_grade_X7_isThrown : GoodIn wsX7_grade wsX7_isThrown := goodIn_r _ [20, 21, 74, 75, 76, 77, 78, 79, 80] (by decide +kernel) (by decide +kernel)
set_option maxRecDepth 20000 in
theorem gX7_grade_X7_isThrown : GoodIn wsX7_grade (wsV RX7 30 RX7 yX7_isThrown wsX7_isThrown) := goodIn_app (goodIn_of _ (by decide +kernel)) ggX7_grade_X7_isThrown
set_option maxRecDepth 20000 in
theorem ggX7_grade_X7_isFew : GoodIn wsX7_grade wsX7_isFew := goodIn_r _ [25, 1, 2, 26, 27, 28, 11, 29, 13, 30, 31, 32, 33, 34, 35, 36, 37, 38, 39, 40, 41, 42, 8, 9, 10, 12, 74, 75, 76, 77, 78, 79, 80, 84, 85, 86, 87, 88, 89, 90, 91, 92, 93, 94, 95, 96, 97, 98, 99, 100, 81, 82, 83] (by decide +kernel) (by decide +kernel)
set_option maxRecDepth 20000 in
theorem gX7_grade_X7_isFew : GoodIn wsX7_grade (wsV RX7 208 RX7 yX7_isFew wsX7_isFew) := goodIn_app (goodIn_of _ (by decide +kernel)) ggX7_grade_X7_isFew
set_option maxRecDepth 20000 in
theorem ggX7_grade_Jx4a65c_get_915e3 : GoodIn wsX7_grade wsJx4a65c_get_915e3 := goodIn_r _ [29, 13, 30, 31, 32, 33, 34, 35, 36, 37, 38, 39, 40, 11, 41, 42, 81, 82, 83] (by decide +kernel) (by decide +kernel)
set_option maxRecDepth 20000 in
theorem gX7_grade_Jx4a65c_get_915e3 : GoodIn wsX7_grade (wsV RX7 62 RJx4a65c yJx4a65c_get_915e3 wsJx4a65c_get_915e3) := goodIn_app (goodIn_of _ (by decide +kernel)) ggX7_grade_Jx4a65c_get_915e3
set_option maxRecDepth 20000 in
theorem ggX7_grade_X5_grade : GoodIn wsX7_grade wsX5_grade := goodIn_r _ [47, 48, 49, 50, 46, 51, 52, 53, 54, 55, 56, 57, 58, 59, 60, 9, 10, 11, 12, 13, 61, 62, 63, 64, 65, 66, 67, 27, 28, 29, 30, 31, 32, 33, 34, 35, 36, 37, 38, 39, 40, 41, 42, 68, 69, 70, 71, 72, 73, 84, 85, 86, 87, 88, 89, 90, 91, 92, 93, 94, 95, 96, 97, 98, 99, 100, 81, 82, 83, 101] (by decide +kernel) (by decide +kernel)
set_option maxRecDepth 20000 in
theorem gX7_grade_X5_grade : GoodIn wsX7_grade (wsV RX7 211 RX5 yX5_grade wsX5_grade) := goodIn_app (goodIn_of _ (by decide +kernel)) ggX7_grade_X5_grade
theorem dX7_grade_0 : decode cX7_grade 0 = .ok (.aload_n 0, 1) := by decide +kernel
theorem dX7_grade_1 : decode cX7_grade 1 = .ok (.aload_n 0, 1) := by decide +kernel
theorem dX7_grade_2 : decode cX7_grade 2 = .ok (.iload_n 1, 1) := by decide +kernel
theorem dX7_grade_3 : decode cX7_grade 3 = .ok (.invokevirtual 87, 3) := by decide +kernel
theorem dX7_grade_6 : decode cX7_grade 6 = .ok (.iconst 1, 1) := by decide +kernel
theorem dX7_grade_7 : decode cX7_grade 7 = .ok (.invokevirtual 30, 3) := by decide +kernel
theorem dX7_grade_10 : decode cX7_grade 10 = .ok (.ifCond .ne 16, 3) := by decide +kernel
theorem dX7_grade_13 : decode cX7_grade 13 = .ok (.aload_n 0, 1) := by decide +kernel
theorem dX7_grade_14 : decode cX7_grade 14 = .ok (.aload_n 0, 1) := by decide +kernel
theorem dX7_grade_15 : decode cX7_grade 15 = .ok (.iload_n 1, 1) := by decide +kernel
theorem dX7_grade_16 : decode cX7_grade 16 = .ok (.invokevirtual 208, 3) := by decide +kernel
theorem dX7_grade_19 : decode cX7_grade 19 = .ok (.iconst 2, 1) := by decide +kernel
theorem dX7_grade_20 : decode cX7_grade 20 = .ok (.invokevirtual 30, 3) := by decide +kernel
theorem dX7_grade_23 : decode cX7_grade 23 = .ok (.ifCond .eq 8, 3) := by decide +kernel
theorem dX7_grade_26 : decode cX7_grade 26 = .ok (.bipush 32, 2) := by decide +kernel
theorem dX7_grade_28 : decode cX7_grade 28 = .ok (.goto 17, 3) := by decide +kernel
theorem dX7_grade_31 : decode cX7_grade 31 = .ok (.aload_n 0, 1) := by decide +kernel
theorem dX7_grade_32 : decode cX7_grade 32 = .ok (.getfield 16, 3) := by decide +kernel
theorem dX7_grade_35 : decode cX7_grade 35 = .ok (.iload_n 1, 1) := by decide +kernel
theorem dX7_grade_36 : decode cX7_grade 36 = .ok (.invokevirtual 62, 3) := by decide +kernel
theorem dX7_grade_39 : decode cX7_grade 39 = .ok (.checkcast 79, 3) := by decide +kernel
theorem dX7_grade_42 : decode cX7_grade 42 = .ok (.invokevirtual 211, 3) := by decide +kernel
theorem dX7_grade_45 : decode cX7_grade 45 = .ok (.ireturn, 1) := by decide +kernel
set_option maxRecDepth 20000 in
theorem ggX7_certify_X7_isNone : GoodIn wsX7_certify wsX7_isNone := goodIn_r _ [8, 1, 9, 10, 11, 12, 13, 14, 15, 16, 7, 17, 75, 76, 77, 78, 79, 80, 81, 99, 100, 101] (by decide +kernel) (by decide +kernel)
set_option maxRecDepth 20000 in
theorem gX7_certify_X7_isNone : GoodIn wsX7_certify (wsV RX7 87 RX7 yX7_isNone wsX7_isNone) := goodIn_app (goodIn_of _ (by decide +kernel)) ggX7_certify_X7_isNone
set_option maxRecDepth 20000 in
theorem ggX7_certify_X7_isThrown : GoodIn wsX7_certify wsX7_isThrown := goodIn_r _ [21, 22, 75, 76, 77, 78, 79, 80, 81] (by decide +kernel) (by decide +kernel)
set_option maxRecDepth 20000 in
theorem gX7_certify_X7_isThrown : GoodIn wsX7_certify (wsV RX7 30 RX7 yX7_isThrown wsX7_isThrown) := goodIn_app (goodIn_of _ (by decide +kernel)) ggX7_certify_X7_isThrown
set_option maxRecDepth 20000 in
theorem ggX7_certify_X7_isFew : GoodIn wsX7_certify wsX7_isFew := goodIn_r _ [26, 1, 2, 27, 28, 29, 12, 30, 14, 31, 32, 33, 34, 35, 36, 37, 38, 39, 40, 41, 42, 43, 9, 10, 11, 13, 75, 76, 77, 78, 79, 80, 81, 82, 83, 84, 85, 86, 87, 88, 89, 90, 91, 92, 93, 94, 95, 96, 97, 98, 99, 100, 101] (by decide +kernel) (by decide +kernel)
set_option maxRecDepth 20000 in
theorem gX7_certify_X7_isFew : GoodIn wsX7_certify (wsV RX7 208 RX7 yX7_isFew wsX7_isFew) := goodIn_app (goodIn_of _ (by decide +kernel)) ggX7_certify_X7_isFew
set_option maxRecDepth 20000 in
theorem ggX7_certify_Jx4a65c_get_915e3 : GoodIn wsX7_certify wsJx4a65c_get_915e3 := goodIn_r _ [30, 14, 31, 32, 33, 34, 35, 36, 37, 38, 39, 40, 41, 12, 42, 43, 99, 100, 101] (by decide +kernel) (by decide +kernel)
set_option maxRecDepth 20000 in
theorem gX7_certify_Jx4a65c_get_915e3 : GoodIn wsX7_certify (wsV RX7 62 RJx4a65c yJx4a65c_get_915e3 wsJx4a65c_get_915e3) := goodIn_app (goodIn_of _ (by decide +kernel)) ggX7_certify_Jx4a65c_get_915e3
set_option maxRecDepth 20000 in
theorem ggX7_certify_X5_grade : GoodIn wsX7_certify wsX5_grade := goodIn_r _ [48, 49, 50, 51, 47, 52, 53, 54, 55, 56, 57, 58, 59, 60, 61, 10, 11, 12, 13, 14, 62, 63, 64, 65, 66, 67, 68, 28, 29, 30, 31, 32, 33, 34, 35, 36, 37, 38, 39, 40, 41, 42, 43, 69, 70, 71, 72, 73, 74, 82, 83, 84, 85, 86, 87, 88, 89, 90, 91, 92, 93, 94, 95, 96, 97, 98, 99, 100, 101, 102] (by decide +kernel) (by decide +kernel)
set_option maxRecDepth 20000 in
theorem gX7_certify_X5_grade : GoodIn wsX7_certify (wsV RX7 211 RX5 yX5_grade wsX5_grade) := goodIn_app (goodIn_of _ (by decide +kernel)) ggX7_certify_X5_grade
theorem dX7_certify_0 : decode cX7_certify 0 = .ok (.aload_n 0, 1) := by decide +kernel
theorem dX7_certify_1 : decode cX7_certify 1 = .ok (.aload_n 0, 1) := by decide +kernel
theorem dX7_certify_2 : decode cX7_certify 2 = .ok (.iload_n 1, 1) := by decide +kernel
theorem dX7_certify_3 : decode cX7_certify 3 = .ok (.invokevirtual 87, 3) := by decide +kernel
theorem dX7_certify_6 : decode cX7_certify 6 = .ok (.iconst 1, 1) := by decide +kernel
theorem dX7_certify_7 : decode cX7_certify 7 = .ok (.invokevirtual 30, 3) := by decide +kernel
theorem dX7_certify_10 : decode cX7_certify 10 = .ok (.ifCond .ne 43, 3) := by decide +kernel
theorem dX7_certify_13 : decode cX7_certify 13 = .ok (.aload_n 0, 1) := by decide +kernel
theorem dX7_certify_14 : decode cX7_certify 14 = .ok (.aload_n 0, 1) := by decide +kernel
theorem dX7_certify_15 : decode cX7_certify 15 = .ok (.iload_n 1, 1) := by decide +kernel
theorem dX7_certify_16 : decode cX7_certify 16 = .ok (.invokevirtual 208, 3) := by decide +kernel
theorem dX7_certify_19 : decode cX7_certify 19 = .ok (.ifCond .ne 22, 3) := by decide +kernel
theorem dX7_certify_22 : decode cX7_certify 22 = .ok (.aload_n 0, 1) := by decide +kernel
theorem dX7_certify_23 : decode cX7_certify 23 = .ok (.getfield 16, 3) := by decide +kernel
theorem dX7_certify_26 : decode cX7_certify 26 = .ok (.iload_n 1, 1) := by decide +kernel
theorem dX7_certify_27 : decode cX7_certify 27 = .ok (.invokevirtual 62, 3) := by decide +kernel
theorem dX7_certify_30 : decode cX7_certify 30 = .ok (.checkcast 79, 3) := by decide +kernel
theorem dX7_certify_33 : decode cX7_certify 33 = .ok (.invokevirtual 211, 3) := by decide +kernel
theorem dX7_certify_36 : decode cX7_certify 36 = .ok (.bipush 88, 2) := by decide +kernel
theorem dX7_certify_38 : decode cX7_certify 38 = .ok (.if_icmp .ne 7, 3) := by decide +kernel
theorem dX7_certify_41 : decode cX7_certify 41 = .ok (.iconst 1, 1) := by decide +kernel
theorem dX7_certify_42 : decode cX7_certify 42 = .ok (.goto 4, 3) := by decide +kernel
theorem dX7_certify_45 : decode cX7_certify 45 = .ok (.iconst 0, 1) := by decide +kernel
theorem dX7_certify_46 : decode cX7_certify 46 = .ok (.iconst 2, 1) := by decide +kernel
theorem dX7_certify_47 : decode cX7_certify 47 = .ok (.invokevirtual 30, 3) := by decide +kernel
theorem dX7_certify_50 : decode cX7_certify 50 = .ok (.ifCond .eq 5, 3) := by decide +kernel
theorem dX7_certify_53 : decode cX7_certify 53 = .ok (.iconst 0, 1) := by decide +kernel
theorem dX7_certify_54 : decode cX7_certify 54 = .ok (.ireturn, 1) := by decide +kernel
theorem dX7_certify_55 : decode cX7_certify 55 = .ok (.aload_n 0, 1) := by decide +kernel
theorem dX7_certify_56 : decode cX7_certify 56 = .ok (.getfield 16, 3) := by decide +kernel
theorem dX7_certify_59 : decode cX7_certify 59 = .ok (.iload_n 1, 1) := by decide +kernel
theorem dX7_certify_60 : decode cX7_certify 60 = .ok (.invokevirtual 62, 3) := by decide +kernel
theorem dX7_certify_63 : decode cX7_certify 63 = .ok (.checkcast 79, 3) := by decide +kernel
theorem dX7_certify_66 : decode cX7_certify 66 = .ok (.astore_n 2, 1) := by decide +kernel
theorem dX7_certify_67 : decode cX7_certify 67 = .ok (.aload_n 2, 1) := by decide +kernel
theorem dX7_certify_68 : decode cX7_certify 68 = .ok (.aload_n 0, 1) := by decide +kernel
theorem dX7_certify_69 : decode cX7_certify 69 = .ok (.getfield 116, 3) := by decide +kernel
theorem dX7_certify_72 : decode cX7_certify 72 = .ok (.aload_n 2, 1) := by decide +kernel
theorem dX7_certify_73 : decode cX7_certify 73 = .ok (.getfield 215, 3) := by decide +kernel
theorem dX7_certify_76 : decode cX7_certify 76 = .ok (.ifCond .eq 8, 3) := by decide +kernel
theorem dX7_certify_79 : decode cX7_certify 79 = .ok (.bipush 120, 2) := by decide +kernel
theorem dX7_certify_81 : decode cX7_certify 81 = .ok (.goto 6, 3) := by decide +kernel
theorem dX7_certify_84 : decode cX7_certify 84 = .ok (.sipush 360, 3) := by decide +kernel
theorem dX7_certify_87 : decode cX7_certify 87 = .ok (.iadd, 1) := by decide +kernel
theorem dX7_certify_88 : decode cX7_certify 88 = .ok (.putfield 113, 3) := by decide +kernel
theorem dX7_certify_91 : decode cX7_certify 91 = .ok (.aload_n 2, 1) := by decide +kernel
theorem dX7_certify_92 : decode cX7_certify 92 = .ok (.getfield 113, 3) := by decide +kernel
theorem dX7_certify_95 : decode cX7_certify 95 = .ok (.ireturn, 1) := by decide +kernel
theorem dX7_holds_0 : decode cX7_holds 0 = .ok (.aload_n 1, 1) := by decide +kernel
theorem dX7_holds_1 : decode cX7_holds 1 = .ok (.getfield 104, 3) := by decide +kernel
theorem dX7_holds_4 : decode cX7_holds 4 = .ok (.ifCond .ne 18, 3) := by decide +kernel
theorem dX7_holds_7 : decode cX7_holds 7 = .ok (.aload_n 1, 1) := by decide +kernel
theorem dX7_holds_8 : decode cX7_holds 8 = .ok (.getfield 113, 3) := by decide +kernel
theorem dX7_holds_11 : decode cX7_holds 11 = .ok (.aload_n 0, 1) := by decide +kernel
theorem dX7_holds_12 : decode cX7_holds 12 = .ok (.getfield 116, 3) := by decide +kernel
theorem dX7_holds_15 : decode cX7_holds 15 = .ok (.if_icmp .lt 7, 3) := by decide +kernel
theorem dX7_holds_18 : decode cX7_holds 18 = .ok (.iconst 1, 1) := by decide +kernel
theorem dX7_holds_19 : decode cX7_holds 19 = .ok (.goto 4, 3) := by decide +kernel
theorem dX7_holds_22 : decode cX7_holds 22 = .ok (.iconst 0, 1) := by decide +kernel
theorem dX7_holds_23 : decode cX7_holds 23 = .ok (.ireturn, 1) := by decide +kernel
set_option maxRecDepth 20000 in
theorem ggX7_isCertified_X7_isNone : GoodIn wsX7_isCertified wsX7_isNone := goodIn_r _ [7, 1, 8, 9, 10, 11, 12, 13, 14, 15, 6, 16, 44, 45, 46, 47, 48, 49, 50, 51, 52, 53] (by decide +kernel) (by decide +kernel)
set_option maxRecDepth 20000 in
theorem gX7_isCertified_X7_isNone : GoodIn wsX7_isCertified (wsV RX7 87 RX7 yX7_isNone wsX7_isNone) := goodIn_app (goodIn_of _ (by decide +kernel)) ggX7_isCertified_X7_isNone
set_option maxRecDepth 20000 in
theorem ggX7_isCertified_X7_isThrown : GoodIn wsX7_isCertified wsX7_isThrown := goodIn_r _ [20, 21, 44, 45, 46, 47, 48, 49, 50] (by decide +kernel) (by decide +kernel)
set_option maxRecDepth 20000 in
theorem gX7_isCertified_X7_isThrown : GoodIn wsX7_isCertified (wsV RX7 30 RX7 yX7_isThrown wsX7_isThrown) := goodIn_app (goodIn_of _ (by decide +kernel)) ggX7_isCertified_X7_isThrown
set_option maxRecDepth 20000 in
theorem ggX7_isCertified_Jx4a65c_get_915e3 : GoodIn wsX7_isCertified wsJx4a65c_get_915e3 := goodIn_r _ [25, 13, 26, 27, 28, 29, 30, 31, 32, 33, 34, 35, 36, 11, 37, 38, 51, 52, 53] (by decide +kernel) (by decide +kernel)
set_option maxRecDepth 20000 in
theorem gX7_isCertified_Jx4a65c_get_915e3 : GoodIn wsX7_isCertified (wsV RX7 62 RJx4a65c yJx4a65c_get_915e3 wsJx4a65c_get_915e3) := goodIn_app (goodIn_of _ (by decide +kernel)) ggX7_isCertified_Jx4a65c_get_915e3
set_option maxRecDepth 20000 in
theorem ggX7_isCertified_X7_holds : GoodIn wsX7_isCertified wsX7_holds := goodIn_r _ [42, 43, 54, 55, 56, 57, 58, 59, 60, 61, 62, 63, 64, 65, 66, 67, 68, 69, 70, 44, 45, 46, 47, 48, 49, 50] (by decide +kernel) (by decide +kernel)
set_option maxRecDepth 20000 in
theorem gX7_isCertified_X7_holds : GoodIn wsX7_isCertified (wsV RX7 218 RX7 yX7_holds wsX7_holds) := goodIn_app (goodIn_of _ (by decide +kernel)) ggX7_isCertified_X7_holds
theorem dX7_isCertified_0 : decode cX7_isCertified 0 = .ok (.aload_n 0, 1) := by decide +kernel
theorem dX7_isCertified_1 : decode cX7_isCertified 1 = .ok (.aload_n 0, 1) := by decide +kernel
theorem dX7_isCertified_2 : decode cX7_isCertified 2 = .ok (.iload_n 1, 1) := by decide +kernel
theorem dX7_isCertified_3 : decode cX7_isCertified 3 = .ok (.invokevirtual 87, 3) := by decide +kernel
theorem dX7_isCertified_6 : decode cX7_isCertified 6 = .ok (.iconst 1, 1) := by decide +kernel
theorem dX7_isCertified_7 : decode cX7_isCertified 7 = .ok (.invokevirtual 30, 3) := by decide +kernel
theorem dX7_isCertified_10 : decode cX7_isCertified 10 = .ok (.ifCond .ne 25, 3) := by decide +kernel
theorem dX7_isCertified_13 : decode cX7_isCertified 13 = .ok (.aload_n 0, 1) := by decide +kernel
theorem dX7_isCertified_14 : decode cX7_isCertified 14 = .ok (.aload_n 0, 1) := by decide +kernel
theorem dX7_isCertified_15 : decode cX7_isCertified 15 = .ok (.getfield 16, 3) := by decide +kernel
theorem dX7_isCertified_18 : decode cX7_isCertified 18 = .ok (.iload_n 1, 1) := by decide +kernel
theorem dX7_isCertified_19 : decode cX7_isCertified 19 = .ok (.invokevirtual 62, 3) := by decide +kernel
theorem dX7_isCertified_22 : decode cX7_isCertified 22 = .ok (.checkcast 79, 3) := by decide +kernel
theorem dX7_isCertified_25 : decode cX7_isCertified 25 = .ok (.invokevirtual 218, 3) := by decide +kernel
theorem dX7_isCertified_28 : decode cX7_isCertified 28 = .ok (.ifCond .eq 7, 3) := by decide +kernel
theorem dX7_isCertified_31 : decode cX7_isCertified 31 = .ok (.iconst 1, 1) := by decide +kernel
theorem dX7_isCertified_32 : decode cX7_isCertified 32 = .ok (.goto 4, 3) := by decide +kernel
theorem dX7_isCertified_35 : decode cX7_isCertified 35 = .ok (.iconst 0, 1) := by decide +kernel
theorem dX7_isCertified_36 : decode cX7_isCertified 36 = .ok (.ireturn, 1) := by decide +kernel
set_option maxRecDepth 20000 in
theorem ggX7_breakThread_X7_isNone : GoodIn wsX7_breakThread wsX7_isNone := goodIn_r _ [7, 1, 8, 9, 10, 11, 12, 13, 14, 15, 6, 16, 50, 51, 52, 53, 54, 55, 56, 74, 75, 76] (by decide +kernel) (by decide +kernel)
set_option maxRecDepth 20000 in
theorem gX7_breakThread_X7_isNone : GoodIn wsX7_breakThread (wsV RX7 87 RX7 yX7_isNone wsX7_isNone) := goodIn_app (goodIn_of _ (by decide +kernel)) ggX7_breakThread_X7_isNone
set_option maxRecDepth 20000 in
theorem ggX7_breakThread_X7_isThrown : GoodIn wsX7_breakThread wsX7_isThrown := goodIn_r _ [20, 21, 50, 51, 52, 53, 54, 55, 56] (by decide +kernel) (by decide +kernel)
set_option maxRecDepth 20000 in
theorem gX7_breakThread_X7_isThrown : GoodIn wsX7_breakThread (wsV RX7 30 RX7 yX7_isThrown wsX7_isThrown) := goodIn_app (goodIn_of _ (by decide +kernel)) ggX7_breakThread_X7_isThrown
set_option maxRecDepth 20000 in
theorem ggX7_breakThread_X7_isIn : GoodIn wsX7_breakThread wsX7_isIn := goodIn_r _ [16] (by decide +kernel) (by decide +kernel)
set_option maxRecDepth 20000 in
theorem gX7_breakThread_X7_isIn : GoodIn wsX7_breakThread (va_wsS RX7 26 yX7_isIn wsX7_isIn) := goodIn_app (goodIn_of _ (by decide +kernel)) ggX7_breakThread_X7_isIn
set_option maxRecDepth 20000 in
theorem ggX7_breakThread_X7_isEmpty : GoodIn wsX7_breakThread wsX7_isEmpty := goodIn_r _ [25, 1, 2, 26, 27, 28, 11, 29, 13, 30, 31, 32, 33, 34, 35, 36, 37, 38, 39, 40, 41, 42, 43, 44, 45, 46, 47, 48, 49, 50, 51, 52, 53, 54, 55, 56, 74, 75, 76, 57, 58, 59, 60, 61, 62, 63, 64, 65, 66, 67, 68, 69, 70, 71, 72, 73] (by decide +kernel) (by decide +kernel)
set_option maxRecDepth 20000 in
theorem gX7_breakThread_X7_isEmpty : GoodIn wsX7_breakThread (wsV RX7 142 RX7 yX7_isEmpty wsX7_isEmpty) := goodIn_app (goodIn_of _ (by decide +kernel)) ggX7_breakThread_X7_isEmpty
set_option maxRecDepth 20000 in
theorem ggX7_breakThread_Jx4a65c_get_915e3 : GoodIn wsX7_breakThread wsJx4a65c_get_915e3 := goodIn_r _ [29, 13, 30, 31, 32, 33, 34, 35, 36, 37, 38, 39, 40, 11, 41, 42, 74, 75, 76] (by decide +kernel) (by decide +kernel)
set_option maxRecDepth 20000 in
theorem gX7_breakThread_Jx4a65c_get_915e3 : GoodIn wsX7_breakThread (wsV RX7 62 RJx4a65c yJx4a65c_get_915e3 wsJx4a65c_get_915e3) := goodIn_app (goodIn_of _ (by decide +kernel)) ggX7_breakThread_Jx4a65c_get_915e3
theorem dX7_breakThread_0 : decode cX7_breakThread 0 = .ok (.aload_n 0, 1) := by decide +kernel
theorem dX7_breakThread_1 : decode cX7_breakThread 1 = .ok (.aload_n 0, 1) := by decide +kernel
theorem dX7_breakThread_2 : decode cX7_breakThread 2 = .ok (.iload_n 1, 1) := by decide +kernel
theorem dX7_breakThread_3 : decode cX7_breakThread 3 = .ok (.invokevirtual 87, 3) := by decide +kernel
theorem dX7_breakThread_6 : decode cX7_breakThread 6 = .ok (.iconst 1, 1) := by decide +kernel
theorem dX7_breakThread_7 : decode cX7_breakThread 7 = .ok (.invokevirtual 30, 3) := by decide +kernel
theorem dX7_breakThread_10 : decode cX7_breakThread 10 = .ok (.ifCond .ne 39, 3) := by decide +kernel
theorem dX7_breakThread_13 : decode cX7_breakThread 13 = .ok (.aload_n 0, 1) := by decide +kernel
theorem dX7_breakThread_14 : decode cX7_breakThread 14 = .ok (.iload_n 2, 1) := by decide +kernel
theorem dX7_breakThread_15 : decode cX7_breakThread 15 = .ok (.iconst 1, 1) := by decide +kernel
theorem dX7_breakThread_16 : decode cX7_breakThread 16 = .ok (.bipush 20, 2) := by decide +kernel
theorem dX7_breakThread_18 : decode cX7_breakThread 18 = .ok (.invokestatic 26, 3) := by decide +kernel
theorem dX7_breakThread_21 : decode cX7_breakThread 21 = .ok (.ifCond .ne 7, 3) := by decide +kernel
theorem dX7_breakThread_24 : decode cX7_breakThread 24 = .ok (.iconst 1, 1) := by decide +kernel
theorem dX7_breakThread_25 : decode cX7_breakThread 25 = .ok (.goto 4, 3) := by decide +kernel
theorem dX7_breakThread_28 : decode cX7_breakThread 28 = .ok (.iconst 0, 1) := by decide +kernel
theorem dX7_breakThread_29 : decode cX7_breakThread 29 = .ok (.iconst 2, 1) := by decide +kernel
theorem dX7_breakThread_30 : decode cX7_breakThread 30 = .ok (.invokevirtual 30, 3) := by decide +kernel
theorem dX7_breakThread_33 : decode cX7_breakThread 33 = .ok (.ifCond .ne 16, 3) := by decide +kernel
theorem dX7_breakThread_36 : decode cX7_breakThread 36 = .ok (.aload_n 0, 1) := by decide +kernel
theorem dX7_breakThread_37 : decode cX7_breakThread 37 = .ok (.aload_n 0, 1) := by decide +kernel
theorem dX7_breakThread_38 : decode cX7_breakThread 38 = .ok (.iload_n 1, 1) := by decide +kernel
theorem dX7_breakThread_39 : decode cX7_breakThread 39 = .ok (.invokevirtual 142, 3) := by decide +kernel
theorem dX7_breakThread_42 : decode cX7_breakThread 42 = .ok (.iconst 3, 1) := by decide +kernel
theorem dX7_breakThread_43 : decode cX7_breakThread 43 = .ok (.invokevirtual 30, 3) := by decide +kernel
theorem dX7_breakThread_46 : decode cX7_breakThread 46 = .ok (.ifCond .eq 5, 3) := by decide +kernel
theorem dX7_breakThread_49 : decode cX7_breakThread 49 = .ok (.iconst 0, 1) := by decide +kernel
theorem dX7_breakThread_50 : decode cX7_breakThread 50 = .ok (.ireturn, 1) := by decide +kernel
theorem dX7_breakThread_51 : decode cX7_breakThread 51 = .ok (.aload_n 0, 1) := by decide +kernel
theorem dX7_breakThread_52 : decode cX7_breakThread 52 = .ok (.getfield 16, 3) := by decide +kernel
theorem dX7_breakThread_55 : decode cX7_breakThread 55 = .ok (.iload_n 1, 1) := by decide +kernel
theorem dX7_breakThread_56 : decode cX7_breakThread 56 = .ok (.invokevirtual 62, 3) := by decide +kernel
theorem dX7_breakThread_59 : decode cX7_breakThread 59 = .ok (.checkcast 79, 3) := by decide +kernel
theorem dX7_breakThread_62 : decode cX7_breakThread 62 = .ok (.getfield 167, 3) := by decide +kernel
theorem dX7_breakThread_65 : decode cX7_breakThread 65 = .ok (.istore_n 3, 1) := by decide +kernel
theorem dX7_breakThread_66 : decode cX7_breakThread 66 = .ok (.aload_n 0, 1) := by decide +kernel
theorem dX7_breakThread_67 : decode cX7_breakThread 67 = .ok (.getfield 16, 3) := by decide +kernel
theorem dX7_breakThread_70 : decode cX7_breakThread 70 = .ok (.iload_n 1, 1) := by decide +kernel
theorem dX7_breakThread_71 : decode cX7_breakThread 71 = .ok (.invokevirtual 62, 3) := by decide +kernel
theorem dX7_breakThread_74 : decode cX7_breakThread 74 = .ok (.checkcast 79, 3) := by decide +kernel
theorem dX7_breakThread_77 : decode cX7_breakThread 77 = .ok (.iload_n 2, 1) := by decide +kernel
theorem dX7_breakThread_78 : decode cX7_breakThread 78 = .ok (.putfield 167, 3) := by decide +kernel
theorem dX7_breakThread_81 : decode cX7_breakThread 81 = .ok (.iload_n 3, 1) := by decide +kernel
theorem dX7_breakThread_82 : decode cX7_breakThread 82 = .ok (.ireturn, 1) := by decide +kernel
set_option maxRecDepth 20000 in
theorem ggX7_isBroken_X7_isNone : GoodIn wsX7_isBroken wsX7_isNone := goodIn_r _ [7, 1, 8, 9, 10, 11, 12, 13, 14, 15, 6, 16, 39, 40, 41, 42, 43, 44, 45, 63, 64, 65] (by decide +kernel) (by decide +kernel)
set_option maxRecDepth 20000 in
theorem gX7_isBroken_X7_isNone : GoodIn wsX7_isBroken (wsV RX7 87 RX7 yX7_isNone wsX7_isNone) := goodIn_app (goodIn_of _ (by decide +kernel)) ggX7_isBroken_X7_isNone
set_option maxRecDepth 20000 in
theorem ggX7_isBroken_X7_isThrown : GoodIn wsX7_isBroken wsX7_isThrown := goodIn_r _ [20, 21, 39, 40, 41, 42, 43, 44, 45] (by decide +kernel) (by decide +kernel)
set_option maxRecDepth 20000 in
theorem gX7_isBroken_X7_isThrown : GoodIn wsX7_isBroken (wsV RX7 30 RX7 yX7_isThrown wsX7_isThrown) := goodIn_app (goodIn_of _ (by decide +kernel)) ggX7_isBroken_X7_isThrown
set_option maxRecDepth 20000 in
theorem ggX7_isBroken_Jx4a65c_get_915e3 : GoodIn wsX7_isBroken wsJx4a65c_get_915e3 := goodIn_r _ [25, 13, 26, 27, 28, 29, 30, 31, 32, 33, 34, 35, 36, 11, 37, 38, 63, 64, 65] (by decide +kernel) (by decide +kernel)
set_option maxRecDepth 20000 in
theorem gX7_isBroken_Jx4a65c_get_915e3 : GoodIn wsX7_isBroken (wsV RX7 62 RJx4a65c yJx4a65c_get_915e3 wsJx4a65c_get_915e3) := goodIn_app (goodIn_of _ (by decide +kernel)) ggX7_isBroken_Jx4a65c_get_915e3
theorem dX7_isBroken_0 : decode cX7_isBroken 0 = .ok (.aload_n 0, 1) := by decide +kernel
theorem dX7_isBroken_1 : decode cX7_isBroken 1 = .ok (.aload_n 0, 1) := by decide +kernel
theorem dX7_isBroken_2 : decode cX7_isBroken 2 = .ok (.iload_n 1, 1) := by decide +kernel
theorem dX7_isBroken_3 : decode cX7_isBroken 3 = .ok (.invokevirtual 87, 3) := by decide +kernel
theorem dX7_isBroken_6 : decode cX7_isBroken 6 = .ok (.iconst 1, 1) := by decide +kernel
theorem dX7_isBroken_7 : decode cX7_isBroken 7 = .ok (.invokevirtual 30, 3) := by decide +kernel
theorem dX7_isBroken_10 : decode cX7_isBroken 10 = .ok (.ifCond .ne 24, 3) := by decide +kernel
theorem dX7_isBroken_13 : decode cX7_isBroken 13 = .ok (.aload_n 0, 1) := by decide +kernel
theorem dX7_isBroken_14 : decode cX7_isBroken 14 = .ok (.getfield 16, 3) := by decide +kernel
theorem dX7_isBroken_17 : decode cX7_isBroken 17 = .ok (.iload_n 1, 1) := by decide +kernel
theorem dX7_isBroken_18 : decode cX7_isBroken 18 = .ok (.invokevirtual 62, 3) := by decide +kernel
theorem dX7_isBroken_21 : decode cX7_isBroken 21 = .ok (.checkcast 79, 3) := by decide +kernel
theorem dX7_isBroken_24 : decode cX7_isBroken 24 = .ok (.getfield 167, 3) := by decide +kernel
theorem dX7_isBroken_27 : decode cX7_isBroken 27 = .ok (.ifCond .le 7, 3) := by decide +kernel
theorem dX7_isBroken_30 : decode cX7_isBroken 30 = .ok (.iconst 1, 1) := by decide +kernel
theorem dX7_isBroken_31 : decode cX7_isBroken 31 = .ok (.goto 4, 3) := by decide +kernel
theorem dX7_isBroken_34 : decode cX7_isBroken 34 = .ok (.iconst 0, 1) := by decide +kernel
theorem dX7_isBroken_35 : decode cX7_isBroken 35 = .ok (.ireturn, 1) := by decide +kernel
set_option maxRecDepth 20000 in
theorem ggX7_keep_X7_isNone : GoodIn wsX7_keep wsX7_isNone := goodIn_r _ [7, 1, 8, 9, 10, 11, 12, 13, 14, 15, 6, 16, 39, 40, 41, 42, 43, 44, 45, 63, 64, 65] (by decide +kernel) (by decide +kernel)
set_option maxRecDepth 20000 in
theorem gX7_keep_X7_isNone : GoodIn wsX7_keep (wsV RX7 87 RX7 yX7_isNone wsX7_isNone) := goodIn_app (goodIn_of _ (by decide +kernel)) ggX7_keep_X7_isNone
set_option maxRecDepth 20000 in
theorem ggX7_keep_X7_isThrown : GoodIn wsX7_keep wsX7_isThrown := goodIn_r _ [20, 21, 39, 40, 41, 42, 43, 44, 45] (by decide +kernel) (by decide +kernel)
set_option maxRecDepth 20000 in
theorem gX7_keep_X7_isThrown : GoodIn wsX7_keep (wsV RX7 30 RX7 yX7_isThrown wsX7_isThrown) := goodIn_app (goodIn_of _ (by decide +kernel)) ggX7_keep_X7_isThrown
set_option maxRecDepth 20000 in
theorem ggX7_keep_Jx4a65c_get_915e3 : GoodIn wsX7_keep wsJx4a65c_get_915e3 := goodIn_r _ [25, 13, 26, 27, 28, 29, 30, 31, 32, 33, 34, 35, 36, 11, 37, 38, 63, 64, 65] (by decide +kernel) (by decide +kernel)
set_option maxRecDepth 20000 in
theorem gX7_keep_Jx4a65c_get_915e3 : GoodIn wsX7_keep (wsV RX7 62 RJx4a65c yJx4a65c_get_915e3 wsJx4a65c_get_915e3) := goodIn_app (goodIn_of _ (by decide +kernel)) ggX7_keep_Jx4a65c_get_915e3
theorem dX7_keep_0 : decode cX7_keep 0 = .ok (.aload_n 0, 1) := by decide +kernel
theorem dX7_keep_1 : decode cX7_keep 1 = .ok (.aload_n 0, 1) := by decide +kernel
theorem dX7_keep_2 : decode cX7_keep 2 = .ok (.iload_n 1, 1) := by decide +kernel
theorem dX7_keep_3 : decode cX7_keep 3 = .ok (.invokevirtual 87, 3) := by decide +kernel
theorem dX7_keep_6 : decode cX7_keep 6 = .ok (.iconst 1, 1) := by decide +kernel
theorem dX7_keep_7 : decode cX7_keep 7 = .ok (.invokevirtual 30, 3) := by decide +kernel
theorem dX7_keep_10 : decode cX7_keep 10 = .ok (.ifCond .eq 5, 3) := by decide +kernel
theorem dX7_keep_13 : decode cX7_keep 13 = .ok (.iconst 0, 1) := by decide +kernel
theorem dX7_keep_14 : decode cX7_keep 14 = .ok (.ireturn, 1) := by decide +kernel
theorem dX7_keep_15 : decode cX7_keep 15 = .ok (.aload_n 0, 1) := by decide +kernel
theorem dX7_keep_16 : decode cX7_keep 16 = .ok (.getfield 16, 3) := by decide +kernel
theorem dX7_keep_19 : decode cX7_keep 19 = .ok (.iload_n 1, 1) := by decide +kernel
theorem dX7_keep_20 : decode cX7_keep 20 = .ok (.invokevirtual 62, 3) := by decide +kernel
theorem dX7_keep_23 : decode cX7_keep 23 = .ok (.checkcast 79, 3) := by decide +kernel
theorem dX7_keep_26 : decode cX7_keep 26 = .ok (.getfield 170, 3) := by decide +kernel
theorem dX7_keep_29 : decode cX7_keep 29 = .ok (.istore_n 3, 1) := by decide +kernel
theorem dX7_keep_30 : decode cX7_keep 30 = .ok (.aload_n 0, 1) := by decide +kernel
theorem dX7_keep_31 : decode cX7_keep 31 = .ok (.getfield 16, 3) := by decide +kernel
theorem dX7_keep_34 : decode cX7_keep 34 = .ok (.iload_n 1, 1) := by decide +kernel
theorem dX7_keep_35 : decode cX7_keep 35 = .ok (.invokevirtual 62, 3) := by decide +kernel
theorem dX7_keep_38 : decode cX7_keep 38 = .ok (.checkcast 79, 3) := by decide +kernel
theorem dX7_keep_41 : decode cX7_keep 41 = .ok (.iload_n 2, 1) := by decide +kernel
theorem dX7_keep_42 : decode cX7_keep 42 = .ok (.putfield 170, 3) := by decide +kernel
theorem dX7_keep_45 : decode cX7_keep 45 = .ok (.aload_n 0, 1) := by decide +kernel
theorem dX7_keep_46 : decode cX7_keep 46 = .ok (.getfield 16, 3) := by decide +kernel
theorem dX7_keep_49 : decode cX7_keep 49 = .ok (.iload_n 1, 1) := by decide +kernel
theorem dX7_keep_50 : decode cX7_keep 50 = .ok (.invokevirtual 62, 3) := by decide +kernel
theorem dX7_keep_53 : decode cX7_keep 53 = .ok (.checkcast 79, 3) := by decide +kernel
theorem dX7_keep_56 : decode cX7_keep 56 = .ok (.iconst (-1), 1) := by decide +kernel
theorem dX7_keep_57 : decode cX7_keep 57 = .ok (.putfield 173, 3) := by decide +kernel
theorem dX7_keep_60 : decode cX7_keep 60 = .ok (.iload_n 3, 1) := by decide +kernel
theorem dX7_keep_61 : decode cX7_keep 61 = .ok (.ireturn, 1) := by decide +kernel
set_option maxRecDepth 20000 in
theorem ggX7_shake_X7_isNone : GoodIn wsX7_shake wsX7_isNone := goodIn_r _ [7, 1, 8, 9, 10, 11, 12, 13, 14, 15, 6, 16, 39, 40, 41, 42, 43, 44, 45, 63, 64, 65] (by decide +kernel) (by decide +kernel)
set_option maxRecDepth 20000 in
theorem gX7_shake_X7_isNone : GoodIn wsX7_shake (wsV RX7 87 RX7 yX7_isNone wsX7_isNone) := goodIn_app (goodIn_of _ (by decide +kernel)) ggX7_shake_X7_isNone
set_option maxRecDepth 20000 in
theorem ggX7_shake_X7_isThrown : GoodIn wsX7_shake wsX7_isThrown := goodIn_r _ [20, 21, 39, 40, 41, 42, 43, 44, 45] (by decide +kernel) (by decide +kernel)
set_option maxRecDepth 20000 in
theorem gX7_shake_X7_isThrown : GoodIn wsX7_shake (wsV RX7 30 RX7 yX7_isThrown wsX7_isThrown) := goodIn_app (goodIn_of _ (by decide +kernel)) ggX7_shake_X7_isThrown
set_option maxRecDepth 20000 in
theorem ggX7_shake_Jx4a65c_get_915e3 : GoodIn wsX7_shake wsJx4a65c_get_915e3 := goodIn_r _ [25, 13, 26, 27, 28, 29, 30, 31, 32, 33, 34, 35, 36, 11, 37, 38, 63, 64, 65] (by decide +kernel) (by decide +kernel)
set_option maxRecDepth 20000 in
theorem gX7_shake_Jx4a65c_get_915e3 : GoodIn wsX7_shake (wsV RX7 62 RJx4a65c yJx4a65c_get_915e3 wsJx4a65c_get_915e3) := goodIn_app (goodIn_of _ (by decide +kernel)) ggX7_shake_Jx4a65c_get_915e3
theorem dX7_shake_0 : decode cX7_shake 0 = .ok (.aload_n 0, 1) := by decide +kernel
theorem dX7_shake_1 : decode cX7_shake 1 = .ok (.aload_n 0, 1) := by decide +kernel
theorem dX7_shake_2 : decode cX7_shake 2 = .ok (.iload_n 1, 1) := by decide +kernel
theorem dX7_shake_3 : decode cX7_shake 3 = .ok (.invokevirtual 87, 3) := by decide +kernel
theorem dX7_shake_6 : decode cX7_shake 6 = .ok (.iconst 1, 1) := by decide +kernel
theorem dX7_shake_7 : decode cX7_shake 7 = .ok (.invokevirtual 30, 3) := by decide +kernel
theorem dX7_shake_10 : decode cX7_shake 10 = .ok (.ifCond .ne 64, 3) := by decide +kernel
theorem dX7_shake_13 : decode cX7_shake 13 = .ok (.aload_n 0, 1) := by decide +kernel
theorem dX7_shake_14 : decode cX7_shake 14 = .ok (.aload_n 0, 1) := by decide +kernel
theorem dX7_shake_15 : decode cX7_shake 15 = .ok (.getfield 16, 3) := by decide +kernel
theorem dX7_shake_18 : decode cX7_shake 18 = .ok (.iload_n 1, 1) := by decide +kernel
theorem dX7_shake_19 : decode cX7_shake 19 = .ok (.invokevirtual 62, 3) := by decide +kernel
theorem dX7_shake_22 : decode cX7_shake 22 = .ok (.checkcast 79, 3) := by decide +kernel
theorem dX7_shake_25 : decode cX7_shake 25 = .ok (.getfield 170, 3) := by decide +kernel
theorem dX7_shake_28 : decode cX7_shake 28 = .ok (.ifCond .ne 7, 3) := by decide +kernel
theorem dX7_shake_31 : decode cX7_shake 31 = .ok (.iconst 1, 1) := by decide +kernel
theorem dX7_shake_32 : decode cX7_shake 32 = .ok (.goto 4, 3) := by decide +kernel
theorem dX7_shake_35 : decode cX7_shake 35 = .ok (.iconst 0, 1) := by decide +kernel
theorem dX7_shake_36 : decode cX7_shake 36 = .ok (.iconst 2, 1) := by decide +kernel
theorem dX7_shake_37 : decode cX7_shake 37 = .ok (.invokevirtual 30, 3) := by decide +kernel
theorem dX7_shake_40 : decode cX7_shake 40 = .ok (.ifCond .ne 34, 3) := by decide +kernel
theorem dX7_shake_43 : decode cX7_shake 43 = .ok (.aload_n 0, 1) := by decide +kernel
theorem dX7_shake_44 : decode cX7_shake 44 = .ok (.aload_n 0, 1) := by decide +kernel
theorem dX7_shake_45 : decode cX7_shake 45 = .ok (.getfield 16, 3) := by decide +kernel
theorem dX7_shake_48 : decode cX7_shake 48 = .ok (.iload_n 1, 1) := by decide +kernel
theorem dX7_shake_49 : decode cX7_shake 49 = .ok (.invokevirtual 62, 3) := by decide +kernel
theorem dX7_shake_52 : decode cX7_shake 52 = .ok (.checkcast 79, 3) := by decide +kernel
theorem dX7_shake_55 : decode cX7_shake 55 = .ok (.getfield 173, 3) := by decide +kernel
theorem dX7_shake_58 : decode cX7_shake 58 = .ok (.iconst (-1), 1) := by decide +kernel
theorem dX7_shake_59 : decode cX7_shake 59 = .ok (.if_icmp .ne 7, 3) := by decide +kernel
theorem dX7_shake_62 : decode cX7_shake 62 = .ok (.iconst 1, 1) := by decide +kernel
theorem dX7_shake_63 : decode cX7_shake 63 = .ok (.goto 4, 3) := by decide +kernel
theorem dX7_shake_66 : decode cX7_shake 66 = .ok (.iconst 0, 1) := by decide +kernel
theorem dX7_shake_67 : decode cX7_shake 67 = .ok (.iconst 3, 1) := by decide +kernel
theorem dX7_shake_68 : decode cX7_shake 68 = .ok (.invokevirtual 30, 3) := by decide +kernel
theorem dX7_shake_71 : decode cX7_shake 71 = .ok (.ifCond .eq 5, 3) := by decide +kernel
theorem dX7_shake_74 : decode cX7_shake 74 = .ok (.iconst 0, 1) := by decide +kernel
theorem dX7_shake_75 : decode cX7_shake 75 = .ok (.ireturn, 1) := by decide +kernel
theorem dX7_shake_76 : decode cX7_shake 76 = .ok (.aload_n 0, 1) := by decide +kernel
theorem dX7_shake_77 : decode cX7_shake 77 = .ok (.getfield 16, 3) := by decide +kernel
theorem dX7_shake_80 : decode cX7_shake 80 = .ok (.iload_n 1, 1) := by decide +kernel
theorem dX7_shake_81 : decode cX7_shake 81 = .ok (.invokevirtual 62, 3) := by decide +kernel
theorem dX7_shake_84 : decode cX7_shake 84 = .ok (.checkcast 79, 3) := by decide +kernel
theorem dX7_shake_87 : decode cX7_shake 87 = .ok (.getfield 173, 3) := by decide +kernel
theorem dX7_shake_90 : decode cX7_shake 90 = .ok (.istore_n 2, 1) := by decide +kernel
theorem dX7_shake_91 : decode cX7_shake 91 = .ok (.aload_n 0, 1) := by decide +kernel
theorem dX7_shake_92 : decode cX7_shake 92 = .ok (.getfield 16, 3) := by decide +kernel
theorem dX7_shake_95 : decode cX7_shake 95 = .ok (.iload_n 1, 1) := by decide +kernel
theorem dX7_shake_96 : decode cX7_shake 96 = .ok (.invokevirtual 62, 3) := by decide +kernel
theorem dX7_shake_99 : decode cX7_shake 99 = .ok (.checkcast 79, 3) := by decide +kernel
theorem dX7_shake_102 : decode cX7_shake 102 = .ok (.iconst (-1), 1) := by decide +kernel
theorem dX7_shake_103 : decode cX7_shake 103 = .ok (.putfield 173, 3) := by decide +kernel
theorem dX7_shake_106 : decode cX7_shake 106 = .ok (.iload_n 2, 1) := by decide +kernel
theorem dX7_shake_107 : decode cX7_shake 107 = .ok (.ireturn, 1) := by decide +kernel
set_option maxRecDepth 20000 in
theorem ggX7_barometer_X7_isIn : GoodIn wsX7_barometer wsX7_isIn := goodIn_r _ [5] (by decide +kernel) (by decide +kernel)
set_option maxRecDepth 20000 in
theorem gX7_barometer_X7_isIn : GoodIn wsX7_barometer (va_wsS RX7 26 yX7_isIn wsX7_isIn) := goodIn_app (goodIn_of _ (by decide +kernel)) ggX7_barometer_X7_isIn
set_option maxRecDepth 20000 in
theorem ggX7_barometer_X7_isThrown : GoodIn wsX7_barometer wsX7_isThrown := goodIn_r _ [9, 10, 11, 12, 13, 14, 15, 16, 17] (by decide +kernel) (by decide +kernel)
set_option maxRecDepth 20000 in
theorem gX7_barometer_X7_isThrown : GoodIn wsX7_barometer (wsV RX7 30 RX7 yX7_isThrown wsX7_isThrown) := goodIn_app (goodIn_of _ (by decide +kernel)) ggX7_barometer_X7_isThrown
theorem dX7_barometer_0 : decode cX7_barometer 0 = .ok (.aload_n 0, 1) := by decide +kernel
theorem dX7_barometer_1 : decode cX7_barometer 1 = .ok (.iload_n 1, 1) := by decide +kernel
theorem dX7_barometer_2 : decode cX7_barometer 2 = .ok (.sipush 6000, 3) := by decide +kernel
theorem dX7_barometer_5 : decode cX7_barometer 5 = .ok (.sipush 8000, 3) := by decide +kernel
theorem dX7_barometer_8 : decode cX7_barometer 8 = .ok (.invokestatic 26, 3) := by decide +kernel
theorem dX7_barometer_11 : decode cX7_barometer 11 = .ok (.ifCond .eq 38, 3) := by decide +kernel
theorem dX7_barometer_14 : decode cX7_barometer 14 = .ok (.iload_n 2, 1) := by decide +kernel
theorem dX7_barometer_15 : decode cX7_barometer 15 = .ok (.bipush (-20), 2) := by decide +kernel
theorem dX7_barometer_17 : decode cX7_barometer 17 = .ok (.bipush 40, 2) := by decide +kernel
theorem dX7_barometer_19 : decode cX7_barometer 19 = .ok (.invokestatic 26, 3) := by decide +kernel
theorem dX7_barometer_22 : decode cX7_barometer 22 = .ok (.ifCond .eq 27, 3) := by decide +kernel
theorem dX7_barometer_25 : decode cX7_barometer 25 = .ok (.iload_n 3, 1) := by decide +kernel
theorem dX7_barometer_26 : decode cX7_barometer 26 = .ok (.sipush 9780, 3) := by decide +kernel
theorem dX7_barometer_29 : decode cX7_barometer 29 = .ok (.sipush 9832, 3) := by decide +kernel
theorem dX7_barometer_32 : decode cX7_barometer 32 = .ok (.invokestatic 26, 3) := by decide +kernel
theorem dX7_barometer_35 : decode cX7_barometer 35 = .ok (.ifCond .eq 14, 3) := by decide +kernel
theorem dX7_barometer_38 : decode cX7_barometer 38 = .ok (.iload 4, 2) := by decide +kernel
theorem dX7_barometer_40 : decode cX7_barometer 40 = .ok (.iconst 1, 1) := by decide +kernel
theorem dX7_barometer_41 : decode cX7_barometer 41 = .ok (.bipush 60, 2) := by decide +kernel
theorem dX7_barometer_43 : decode cX7_barometer 43 = .ok (.invokestatic 26, 3) := by decide +kernel
theorem dX7_barometer_46 : decode cX7_barometer 46 = .ok (.ifCond .ne 7, 3) := by decide +kernel
theorem dX7_barometer_49 : decode cX7_barometer 49 = .ok (.iconst 1, 1) := by decide +kernel
theorem dX7_barometer_50 : decode cX7_barometer 50 = .ok (.goto 4, 3) := by decide +kernel
theorem dX7_barometer_53 : decode cX7_barometer 53 = .ok (.iconst 0, 1) := by decide +kernel
theorem dX7_barometer_54 : decode cX7_barometer 54 = .ok (.iconst 1, 1) := by decide +kernel
theorem dX7_barometer_55 : decode cX7_barometer 55 = .ok (.invokevirtual 30, 3) := by decide +kernel
theorem dX7_barometer_58 : decode cX7_barometer 58 = .ok (.ifCond .eq 5, 3) := by decide +kernel
theorem dX7_barometer_61 : decode cX7_barometer 61 = .ok (.iconst 0, 1) := by decide +kernel
theorem dX7_barometer_62 : decode cX7_barometer 62 = .ok (.ireturn, 1) := by decide +kernel
theorem dX7_barometer_63 : decode cX7_barometer 63 = .ok (.iload_n 1, 1) := by decide +kernel
theorem dX7_barometer_64 : decode cX7_barometer 64 = .ok (.iload_n 1, 1) := by decide +kernel
theorem dX7_barometer_65 : decode cX7_barometer 65 = .ok (.bipush 18, 2) := by decide +kernel
theorem dX7_barometer_67 : decode cX7_barometer 67 = .ok (.imul, 1) := by decide +kernel
theorem dX7_barometer_68 : decode cX7_barometer 68 = .ok (.iload_n 2, 1) := by decide +kernel
theorem dX7_barometer_69 : decode cX7_barometer 69 = .ok (.imul, 1) := by decide +kernel
theorem dX7_barometer_70 : decode cX7_barometer 70 = .ok (.ldc 222, 2) := by decide +kernel
theorem dX7_barometer_72 : decode cX7_barometer 72 = .ok (.idiv, 1) := by decide +kernel
theorem dX7_barometer_73 : decode cX7_barometer 73 = .ok (.isub, 1) := by decide +kernel
theorem dX7_barometer_74 : decode cX7_barometer 74 = .ok (.iload_n 3, 1) := by decide +kernel
theorem dX7_barometer_75 : decode cX7_barometer 75 = .ok (.imul, 1) := by decide +kernel
theorem dX7_barometer_76 : decode cX7_barometer 76 = .ok (.sipush 9807, 3) := by decide +kernel
theorem dX7_barometer_79 : decode cX7_barometer 79 = .ok (.idiv, 1) := by decide +kernel
theorem dX7_barometer_80 : decode cX7_barometer 80 = .ok (.bipush 60, 2) := by decide +kernel
theorem dX7_barometer_82 : decode cX7_barometer 82 = .ok (.iload 4, 2) := by decide +kernel
theorem dX7_barometer_84 : decode cX7_barometer 84 = .ok (.idiv, 1) := by decide +kernel
theorem dX7_barometer_85 : decode cX7_barometer 85 = .ok (.iadd, 1) := by decide +kernel
theorem dX7_barometer_86 : decode cX7_barometer 86 = .ok (.ireturn, 1) := by decide +kernel
theorem dX7_stock_0 : decode cX7_stock 0 = .ok (.aload_n 0, 1) := by decide +kernel
theorem dX7_stock_1 : decode cX7_stock 1 = .ok (.iconst 0, 1) := by decide +kernel
theorem dX7_stock_2 : decode cX7_stock 2 = .ok (.putfield 23, 3) := by decide +kernel
theorem dX7_stock_5 : decode cX7_stock 5 = .ok (.aload_n 0, 1) := by decide +kernel
theorem dX7_stock_6 : decode cX7_stock 6 = .ok (.getfield 84, 3) := by decide +kernel
theorem dX7_stock_9 : decode cX7_stock 9 = .ok (.ireturn, 1) := by decide +kernel
theorem dX7_spilt_0 : decode cX7_spilt 0 = .ok (.aload_n 0, 1) := by decide +kernel
theorem dX7_spilt_1 : decode cX7_spilt 1 = .ok (.iconst 0, 1) := by decide +kernel
theorem dX7_spilt_2 : decode cX7_spilt 2 = .ok (.putfield 23, 3) := by decide +kernel
theorem dX7_spilt_5 : decode cX7_spilt 5 = .ok (.aload_n 0, 1) := by decide +kernel
theorem dX7_spilt_6 : decode cX7_spilt 6 = .ok (.getfield 110, 3) := by decide +kernel
theorem dX7_spilt_9 : decode cX7_spilt 9 = .ok (.ireturn, 1) := by decide +kernel
set_option maxRecDepth 20000 in
theorem ggX7_checksum_Jx4a65c_iterator_32c93 : GoodIn wsX7_checksum wsJx4a65c_iterator_32c93 := goodIn_r _ [15, 16, 17, 18, 19, 20, 21, 22, 23, 24, 25, 26, 27, 28, 29, 80, 81, 82, 83, 84, 85, 86] (by decide +kernel) (by decide +kernel)
set_option maxRecDepth 20000 in
theorem gX7_checksum_Jx4a65c_iterator_32c93 : GoodIn wsX7_checksum (wsV RX7 119 RJx4a65c yJx4a65c_iterator_32c93 wsJx4a65c_iterator_32c93) := goodIn_app (goodIn_of _ (by decide +kernel)) ggX7_checksum_Jx4a65c_iterator_32c93
set_option maxRecDepth 20000 in
theorem ggX7_checksum_Jx35411_hasNext_aae02 : GoodIn wsX7_checksum wsJx35411_hasNext_aae02 := goodIn_r _ [33, 34, 22, 80, 81, 82, 83, 84, 85, 86] (by decide +kernel) (by decide +kernel)
set_option maxRecDepth 20000 in
theorem gX7_checksum_Jx35411_hasNext_aae02_f123Jx35411 : GoodIn wsX7_checksum (va_wsF RX7 123 RJx35411 ⟨"java/util/Iterator", "hasNext", "()Z"⟩ yJx35411_hasNext_aae02 wsJx35411_hasNext_aae02) := goodIn_app (goodIn_of _ (by decide +kernel)) ggX7_checksum_Jx35411_hasNext_aae02
set_option maxRecDepth 20000 in
theorem ggX7_checksum_Jx35411_next_0502b : GoodIn wsX7_checksum wsJx35411_next_0502b := goodIn_r _ [38, 34, 22, 39, 26, 40, 41, 42, 18, 43, 27, 28, 29, 80, 81, 82, 83, 84, 85, 86] (by decide +kernel) (by decide +kernel)
set_option maxRecDepth 20000 in
theorem gX7_checksum_Jx35411_next_0502b_f129Jx35411 : GoodIn wsX7_checksum (va_wsF RX7 129 RJx35411 ⟨"java/util/Iterator", "next", "()Ljava/lang/Object;"⟩ yJx35411_next_0502b wsJx35411_next_0502b) := goodIn_app (goodIn_of _ (by decide +kernel)) ggX7_checksum_Jx35411_next_0502b
set_option maxRecDepth 20000 in
theorem ggX7_checksum_X6_volume : GoodIn wsX7_checksum wsX6_volume := goodIn_r _ [48, 49, 87, 88] (by decide +kernel) (by decide +kernel)
set_option maxRecDepth 20000 in
theorem gX7_checksum_X6_volume : GoodIn wsX7_checksum (wsV RX7 73 RX6 yX6_volume wsX6_volume) := goodIn_app (goodIn_of _ (by decide +kernel)) ggX7_checksum_X6_volume
set_option maxRecDepth 20000 in
theorem ggX7_checksum_J6_intValue_8abf5 : GoodIn wsX7_checksum wsJ6_intValue_8abf5 := goodIn_r _ [54, 55, 89] (by decide +kernel) (by decide +kernel)
set_option maxRecDepth 20000 in
theorem gX7_checksum_J6_intValue_8abf5 : GoodIn wsX7_checksum (wsV RX7 184 RJ6 yJ6_intValue_8abf5 wsJ6_intValue_8abf5) := goodIn_app (goodIn_of _ (by decide +kernel)) ggX7_checksum_J6_intValue_8abf5
theorem dX7_checksum_0 : decode cX7_checksum 0 = .ok (.aload_n 0, 1) := by decide +kernel
theorem dX7_checksum_1 : decode cX7_checksum 1 = .ok (.iconst 0, 1) := by decide +kernel
theorem dX7_checksum_2 : decode cX7_checksum 2 = .ok (.putfield 23, 3) := by decide +kernel
theorem dX7_checksum_5 : decode cX7_checksum 5 = .ok (.ldc2_w 223, 3) := by decide +kernel
theorem dX7_checksum_8 : decode cX7_checksum 8 = .ok (.lstore_n 1, 1) := by decide +kernel
theorem dX7_checksum_9 : decode cX7_checksum 9 = .ok (.aload_n 0, 1) := by decide +kernel
theorem dX7_checksum_10 : decode cX7_checksum 10 = .ok (.getfield 10, 3) := by decide +kernel
theorem dX7_checksum_13 : decode cX7_checksum 13 = .ok (.invokevirtual 119, 3) := by decide +kernel
theorem dX7_checksum_16 : decode cX7_checksum 16 = .ok (.astore_n 3, 1) := by decide +kernel
theorem dX7_checksum_17 : decode cX7_checksum 17 = .ok (.aload_n 3, 1) := by decide +kernel
theorem dX7_checksum_18 : decode cX7_checksum 18 = .ok (.invokeinterface 123 1, 5) := by decide +kernel
theorem dX7_checksum_23 : decode cX7_checksum 23 = .ok (.ifCond .eq 33, 3) := by decide +kernel
theorem dX7_checksum_26 : decode cX7_checksum 26 = .ok (.aload_n 3, 1) := by decide +kernel
theorem dX7_checksum_27 : decode cX7_checksum 27 = .ok (.invokeinterface 129 1, 5) := by decide +kernel
theorem dX7_checksum_32 : decode cX7_checksum 32 = .ok (.checkcast 38, 3) := by decide +kernel
theorem dX7_checksum_35 : decode cX7_checksum 35 = .ok (.astore 4, 2) := by decide +kernel
theorem dX7_checksum_37 : decode cX7_checksum 37 = .ok (.ldc2_w 225, 3) := by decide +kernel
theorem dX7_checksum_40 : decode cX7_checksum 40 = .ok (.lload_n 1, 1) := by decide +kernel
theorem dX7_checksum_41 : decode cX7_checksum 41 = .ok (.lmul, 1) := by decide +kernel
theorem dX7_checksum_42 : decode cX7_checksum 42 = .ok (.aload 4, 2) := by decide +kernel
theorem dX7_checksum_44 : decode cX7_checksum 44 = .ok (.sipush 200, 3) := by decide +kernel
theorem dX7_checksum_47 : decode cX7_checksum 47 = .ok (.invokevirtual 73, 3) := by decide +kernel
theorem dX7_checksum_50 : decode cX7_checksum 50 = .ok (.i2l, 1) := by decide +kernel
theorem dX7_checksum_51 : decode cX7_checksum 51 = .ok (.ladd, 1) := by decide +kernel
theorem dX7_checksum_52 : decode cX7_checksum 52 = .ok (.lstore_n 1, 1) := by decide +kernel
theorem dX7_checksum_53 : decode cX7_checksum 53 = .ok (.goto (-36), 3) := by decide +kernel
theorem dX7_checksum_56 : decode cX7_checksum 56 = .ok (.aload_n 0, 1) := by decide +kernel
theorem dX7_checksum_57 : decode cX7_checksum 57 = .ok (.getfield 16, 3) := by decide +kernel
theorem dX7_checksum_60 : decode cX7_checksum 60 = .ok (.invokevirtual 119, 3) := by decide +kernel
theorem dX7_checksum_63 : decode cX7_checksum 63 = .ok (.astore_n 3, 1) := by decide +kernel
theorem dX7_checksum_64 : decode cX7_checksum 64 = .ok (.aload_n 3, 1) := by decide +kernel
theorem dX7_checksum_65 : decode cX7_checksum 65 = .ok (.invokeinterface 123 1, 5) := by decide +kernel
theorem dX7_checksum_70 : decode cX7_checksum 70 = .ok (.ifCond .eq 91, 3) := by decide +kernel
theorem dX7_checksum_73 : decode cX7_checksum 73 = .ok (.aload_n 3, 1) := by decide +kernel
theorem dX7_checksum_74 : decode cX7_checksum 74 = .ok (.invokeinterface 129 1, 5) := by decide +kernel
theorem dX7_checksum_79 : decode cX7_checksum 79 = .ok (.checkcast 79, 3) := by decide +kernel
theorem dX7_checksum_82 : decode cX7_checksum 82 = .ok (.astore 4, 2) := by decide +kernel
theorem dX7_checksum_84 : decode cX7_checksum 84 = .ok (.ldc2_w 225, 3) := by decide +kernel
theorem dX7_checksum_87 : decode cX7_checksum 87 = .ok (.lload_n 1, 1) := by decide +kernel
theorem dX7_checksum_88 : decode cX7_checksum 88 = .ok (.lmul, 1) := by decide +kernel
theorem dX7_checksum_89 : decode cX7_checksum 89 = .ok (.aload 4, 2) := by decide +kernel
theorem dX7_checksum_91 : decode cX7_checksum 91 = .ok (.getfield 107, 3) := by decide +kernel
theorem dX7_checksum_94 : decode cX7_checksum 94 = .ok (.i2l, 1) := by decide +kernel
theorem dX7_checksum_95 : decode cX7_checksum 95 = .ok (.ladd, 1) := by decide +kernel
theorem dX7_checksum_96 : decode cX7_checksum 96 = .ok (.lstore_n 1, 1) := by decide +kernel
theorem dX7_checksum_97 : decode cX7_checksum 97 = .ok (.ldc2_w 225, 3) := by decide +kernel
theorem dX7_checksum_100 : decode cX7_checksum 100 = .ok (.lload_n 1, 1) := by decide +kernel
theorem dX7_checksum_101 : decode cX7_checksum 101 = .ok (.lmul, 1) := by decide +kernel
theorem dX7_checksum_102 : decode cX7_checksum 102 = .ok (.aload 4, 2) := by decide +kernel
theorem dX7_checksum_104 : decode cX7_checksum 104 = .ok (.getfield 93, 3) := by decide +kernel
theorem dX7_checksum_107 : decode cX7_checksum 107 = .ok (.i2l, 1) := by decide +kernel
theorem dX7_checksum_108 : decode cX7_checksum 108 = .ok (.ladd, 1) := by decide +kernel
theorem dX7_checksum_109 : decode cX7_checksum 109 = .ok (.lstore_n 1, 1) := by decide +kernel
theorem dX7_checksum_110 : decode cX7_checksum 110 = .ok (.aload 4, 2) := by decide +kernel
theorem dX7_checksum_112 : decode cX7_checksum 112 = .ok (.getfield 176, 3) := by decide +kernel
theorem dX7_checksum_115 : decode cX7_checksum 115 = .ok (.invokevirtual 119, 3) := by decide +kernel
theorem dX7_checksum_118 : decode cX7_checksum 118 = .ok (.astore 5, 2) := by decide +kernel
theorem dX7_checksum_120 : decode cX7_checksum 120 = .ok (.aload 5, 2) := by decide +kernel
theorem dX7_checksum_122 : decode cX7_checksum 122 = .ok (.invokeinterface 123 1, 5) := by decide +kernel
theorem dX7_checksum_127 : decode cX7_checksum 127 = .ok (.ifCond .eq 31, 3) := by decide +kernel
theorem dX7_checksum_130 : decode cX7_checksum 130 = .ok (.aload 5, 2) := by decide +kernel
theorem dX7_checksum_132 : decode cX7_checksum 132 = .ok (.invokeinterface 129 1, 5) := by decide +kernel
theorem dX7_checksum_137 : decode cX7_checksum 137 = .ok (.checkcast 182, 3) := by decide +kernel
theorem dX7_checksum_140 : decode cX7_checksum 140 = .ok (.invokevirtual 184, 3) := by decide +kernel
theorem dX7_checksum_143 : decode cX7_checksum 143 = .ok (.istore 6, 2) := by decide +kernel
theorem dX7_checksum_145 : decode cX7_checksum 145 = .ok (.ldc2_w 225, 3) := by decide +kernel
theorem dX7_checksum_148 : decode cX7_checksum 148 = .ok (.lload_n 1, 1) := by decide +kernel
theorem dX7_checksum_149 : decode cX7_checksum 149 = .ok (.lmul, 1) := by decide +kernel
theorem dX7_checksum_150 : decode cX7_checksum 150 = .ok (.iload 6, 2) := by decide +kernel
theorem dX7_checksum_152 : decode cX7_checksum 152 = .ok (.i2l, 1) := by decide +kernel
theorem dX7_checksum_153 : decode cX7_checksum 153 = .ok (.ladd, 1) := by decide +kernel
theorem dX7_checksum_154 : decode cX7_checksum 154 = .ok (.lstore_n 1, 1) := by decide +kernel
theorem dX7_checksum_155 : decode cX7_checksum 155 = .ok (.goto (-35), 3) := by decide +kernel
theorem dX7_checksum_158 : decode cX7_checksum 158 = .ok (.goto (-94), 3) := by decide +kernel
theorem dX7_checksum_161 : decode cX7_checksum 161 = .ok (.ldc2_w 225, 3) := by decide +kernel
theorem dX7_checksum_164 : decode cX7_checksum 164 = .ok (.lload_n 1, 1) := by decide +kernel
theorem dX7_checksum_165 : decode cX7_checksum 165 = .ok (.lmul, 1) := by decide +kernel
theorem dX7_checksum_166 : decode cX7_checksum 166 = .ok (.aload_n 0, 1) := by decide +kernel
theorem dX7_checksum_167 : decode cX7_checksum 167 = .ok (.getfield 84, 3) := by decide +kernel
theorem dX7_checksum_170 : decode cX7_checksum 170 = .ok (.i2l, 1) := by decide +kernel
theorem dX7_checksum_171 : decode cX7_checksum 171 = .ok (.ladd, 1) := by decide +kernel
theorem dX7_checksum_172 : decode cX7_checksum 172 = .ok (.lstore_n 1, 1) := by decide +kernel
theorem dX7_checksum_173 : decode cX7_checksum 173 = .ok (.ldc2_w 225, 3) := by decide +kernel
theorem dX7_checksum_176 : decode cX7_checksum 176 = .ok (.lload_n 1, 1) := by decide +kernel
theorem dX7_checksum_177 : decode cX7_checksum 177 = .ok (.lmul, 1) := by decide +kernel
theorem dX7_checksum_178 : decode cX7_checksum 178 = .ok (.aload_n 0, 1) := by decide +kernel
theorem dX7_checksum_179 : decode cX7_checksum 179 = .ok (.getfield 116, 3) := by decide +kernel
theorem dX7_checksum_182 : decode cX7_checksum 182 = .ok (.i2l, 1) := by decide +kernel
theorem dX7_checksum_183 : decode cX7_checksum 183 = .ok (.ladd, 1) := by decide +kernel
theorem dX7_checksum_184 : decode cX7_checksum 184 = .ok (.lreturn, 1) := by decide +kernel
set_option maxRecDepth 20000 in
theorem ggX7_certifiedShare_Jx4a65c_isEmpty_aae02 : GoodIn wsX7_certifiedShare wsJx4a65c_isEmpty_aae02 := goodIn_r _ [7, 8, 63, 64, 65] (by decide +kernel) (by decide +kernel)
set_option maxRecDepth 20000 in
theorem gX7_certifiedShare_Jx4a65c_isEmpty_aae02 : GoodIn wsX7_certifiedShare (wsV RX7 194 RJx4a65c yJx4a65c_isEmpty_aae02 wsJx4a65c_isEmpty_aae02) := goodIn_app (goodIn_of _ (by decide +kernel)) ggX7_certifiedShare_Jx4a65c_isEmpty_aae02
set_option maxRecDepth 20000 in
theorem ggX7_certifiedShare_X7_isThrown : GoodIn wsX7_certifiedShare wsX7_isThrown := goodIn_r _ [13, 14, 56, 57, 58, 59, 60, 61, 62] (by decide +kernel) (by decide +kernel)
set_option maxRecDepth 20000 in
theorem gX7_certifiedShare_X7_isThrown : GoodIn wsX7_certifiedShare (wsV RX7 30 RX7 yX7_isThrown wsX7_isThrown) := goodIn_app (goodIn_of _ (by decide +kernel)) ggX7_certifiedShare_X7_isThrown
set_option maxRecDepth 20000 in
theorem ggX7_certifiedShare_Jx4a65c_iterator_32c93 : GoodIn wsX7_certifiedShare wsJx4a65c_iterator_32c93 := goodIn_r _ [18, 19, 20, 21, 22, 23, 24, 25, 26, 27, 28, 29, 30, 31, 32, 66, 67, 68, 69, 63, 64, 65] (by decide +kernel) (by decide +kernel)
set_option maxRecDepth 20000 in
theorem gX7_certifiedShare_Jx4a65c_iterator_32c93 : GoodIn wsX7_certifiedShare (wsV RX7 119 RJx4a65c yJx4a65c_iterator_32c93 wsJx4a65c_iterator_32c93) := goodIn_app (goodIn_of _ (by decide +kernel)) ggX7_certifiedShare_Jx4a65c_iterator_32c93
set_option maxRecDepth 20000 in
theorem ggX7_certifiedShare_Jx35411_hasNext_aae02 : GoodIn wsX7_certifiedShare wsJx35411_hasNext_aae02 := goodIn_r _ [36, 37, 25, 66, 67, 68, 69, 63, 64, 65] (by decide +kernel) (by decide +kernel)
set_option maxRecDepth 20000 in
theorem gX7_certifiedShare_Jx35411_hasNext_aae02_f123Jx35411 : GoodIn wsX7_certifiedShare (va_wsF RX7 123 RJx35411 ⟨"java/util/Iterator", "hasNext", "()Z"⟩ yJx35411_hasNext_aae02 wsJx35411_hasNext_aae02) := goodIn_app (goodIn_of _ (by decide +kernel)) ggX7_certifiedShare_Jx35411_hasNext_aae02
set_option maxRecDepth 20000 in
theorem ggX7_certifiedShare_Jx35411_next_0502b : GoodIn wsX7_certifiedShare wsJx35411_next_0502b := goodIn_r _ [41, 37, 25, 42, 29, 43, 44, 45, 21, 46, 30, 31, 32, 66, 67, 68, 69, 63, 64, 65] (by decide +kernel) (by decide +kernel)
set_option maxRecDepth 20000 in
theorem gX7_certifiedShare_Jx35411_next_0502b_f129Jx35411 : GoodIn wsX7_certifiedShare (va_wsF RX7 129 RJx35411 ⟨"java/util/Iterator", "next", "()Ljava/lang/Object;"⟩ yJx35411_next_0502b wsJx35411_next_0502b) := goodIn_app (goodIn_of _ (by decide +kernel)) ggX7_certifiedShare_Jx35411_next_0502b
set_option maxRecDepth 20000 in
theorem ggX7_certifiedShare_X7_holds : GoodIn wsX7_certifiedShare wsX7_holds := goodIn_r _ [50, 51, 70, 71, 72, 73, 74, 75, 76, 77, 78, 79, 80, 81, 82, 83, 84, 85, 86, 56, 57, 58, 59, 60, 61, 62] (by decide +kernel) (by decide +kernel)
set_option maxRecDepth 20000 in
theorem gX7_certifiedShare_X7_holds : GoodIn wsX7_certifiedShare (wsV RX7 218 RX7 yX7_holds wsX7_holds) := goodIn_app (goodIn_of _ (by decide +kernel)) ggX7_certifiedShare_X7_holds
set_option maxRecDepth 20000 in
theorem ggX7_certifiedShare_Jx4a65c_size_8abf5 : GoodIn wsX7_certifiedShare wsJx4a65c_size_8abf5 := goodIn_r _ [55, 8, 63, 64, 65] (by decide +kernel) (by decide +kernel)
set_option maxRecDepth 20000 in
theorem gX7_certifiedShare_Jx4a65c_size_8abf5 : GoodIn wsX7_certifiedShare (wsV RX7 34 RJx4a65c yJx4a65c_size_8abf5 wsJx4a65c_size_8abf5) := goodIn_app (goodIn_of _ (by decide +kernel)) ggX7_certifiedShare_Jx4a65c_size_8abf5
theorem dX7_certifiedShare_0 : decode cX7_certifiedShare 0 = .ok (.aload_n 0, 1) := by decide +kernel
theorem dX7_certifiedShare_1 : decode cX7_certifiedShare 1 = .ok (.aload_n 0, 1) := by decide +kernel
theorem dX7_certifiedShare_2 : decode cX7_certifiedShare 2 = .ok (.getfield 16, 3) := by decide +kernel
theorem dX7_certifiedShare_5 : decode cX7_certifiedShare 5 = .ok (.invokevirtual 194, 3) := by decide +kernel
theorem dX7_certifiedShare_8 : decode cX7_certifiedShare 8 = .ok (.iconst 1, 1) := by decide +kernel
theorem dX7_certifiedShare_9 : decode cX7_certifiedShare 9 = .ok (.invokevirtual 30, 3) := by decide +kernel
theorem dX7_certifiedShare_12 : decode cX7_certifiedShare 12 = .ok (.ifCond .eq 5, 3) := by decide +kernel
theorem dX7_certifiedShare_15 : decode cX7_certifiedShare 15 = .ok (.fconst 0, 1) := by decide +kernel
theorem dX7_certifiedShare_16 : decode cX7_certifiedShare 16 = .ok (.freturn, 1) := by decide +kernel
theorem dX7_certifiedShare_17 : decode cX7_certifiedShare 17 = .ok (.iconst 0, 1) := by decide +kernel
theorem dX7_certifiedShare_18 : decode cX7_certifiedShare 18 = .ok (.istore_n 1, 1) := by decide +kernel
theorem dX7_certifiedShare_19 : decode cX7_certifiedShare 19 = .ok (.aload_n 0, 1) := by decide +kernel
theorem dX7_certifiedShare_20 : decode cX7_certifiedShare 20 = .ok (.getfield 16, 3) := by decide +kernel
theorem dX7_certifiedShare_23 : decode cX7_certifiedShare 23 = .ok (.invokevirtual 119, 3) := by decide +kernel
theorem dX7_certifiedShare_26 : decode cX7_certifiedShare 26 = .ok (.astore_n 2, 1) := by decide +kernel
theorem dX7_certifiedShare_27 : decode cX7_certifiedShare 27 = .ok (.aload_n 2, 1) := by decide +kernel
theorem dX7_certifiedShare_28 : decode cX7_certifiedShare 28 = .ok (.invokeinterface 123 1, 5) := by decide +kernel
theorem dX7_certifiedShare_33 : decode cX7_certifiedShare 33 = .ok (.ifCond .eq 32, 3) := by decide +kernel
theorem dX7_certifiedShare_36 : decode cX7_certifiedShare 36 = .ok (.aload_n 2, 1) := by decide +kernel
theorem dX7_certifiedShare_37 : decode cX7_certifiedShare 37 = .ok (.invokeinterface 129 1, 5) := by decide +kernel
theorem dX7_certifiedShare_42 : decode cX7_certifiedShare 42 = .ok (.checkcast 79, 3) := by decide +kernel
theorem dX7_certifiedShare_45 : decode cX7_certifiedShare 45 = .ok (.astore_n 3, 1) := by decide +kernel
theorem dX7_certifiedShare_46 : decode cX7_certifiedShare 46 = .ok (.iload_n 1, 1) := by decide +kernel
theorem dX7_certifiedShare_47 : decode cX7_certifiedShare 47 = .ok (.aload_n 0, 1) := by decide +kernel
theorem dX7_certifiedShare_48 : decode cX7_certifiedShare 48 = .ok (.aload_n 3, 1) := by decide +kernel
theorem dX7_certifiedShare_49 : decode cX7_certifiedShare 49 = .ok (.invokevirtual 218, 3) := by decide +kernel
theorem dX7_certifiedShare_52 : decode cX7_certifiedShare 52 = .ok (.ifCond .eq 7, 3) := by decide +kernel
theorem dX7_certifiedShare_55 : decode cX7_certifiedShare 55 = .ok (.iconst 1, 1) := by decide +kernel
theorem dX7_certifiedShare_56 : decode cX7_certifiedShare 56 = .ok (.goto 4, 3) := by decide +kernel
theorem dX7_certifiedShare_59 : decode cX7_certifiedShare 59 = .ok (.iconst 0, 1) := by decide +kernel
theorem dX7_certifiedShare_60 : decode cX7_certifiedShare 60 = .ok (.iadd, 1) := by decide +kernel
theorem dX7_certifiedShare_61 : decode cX7_certifiedShare 61 = .ok (.istore_n 1, 1) := by decide +kernel
theorem dX7_certifiedShare_62 : decode cX7_certifiedShare 62 = .ok (.goto (-35), 3) := by decide +kernel
theorem dX7_certifiedShare_65 : decode cX7_certifiedShare 65 = .ok (.iload_n 1, 1) := by decide +kernel
theorem dX7_certifiedShare_66 : decode cX7_certifiedShare 66 = .ok (.i2f, 1) := by decide +kernel
theorem dX7_certifiedShare_67 : decode cX7_certifiedShare 67 = .ok (.aload_n 0, 1) := by decide +kernel
theorem dX7_certifiedShare_68 : decode cX7_certifiedShare 68 = .ok (.getfield 16, 3) := by decide +kernel
theorem dX7_certifiedShare_71 : decode cX7_certifiedShare 71 = .ok (.invokevirtual 34, 3) := by decide +kernel
theorem dX7_certifiedShare_74 : decode cX7_certifiedShare 74 = .ok (.i2f, 1) := by decide +kernel
theorem dX7_certifiedShare_75 : decode cX7_certifiedShare 75 = .ok (.fdiv, 1) := by decide +kernel
theorem dX7_certifiedShare_76 : decode cX7_certifiedShare 76 = .ok (.freturn, 1) := by decide +kernel
set_option maxRecDepth 20000 in
theorem ggX7_meanError_X7_isNone : GoodIn wsX7_meanError wsX7_isNone := goodIn_r _ [7, 1, 8, 9, 10, 11, 12, 13, 14, 15, 6, 16, 62, 63, 64, 65, 66, 67, 68, 86, 87, 88] (by decide +kernel) (by decide +kernel)
set_option maxRecDepth 20000 in
theorem gX7_meanError_X7_isNone : GoodIn wsX7_meanError (wsV RX7 87 RX7 yX7_isNone wsX7_isNone) := goodIn_app (goodIn_of _ (by decide +kernel)) ggX7_meanError_X7_isNone
set_option maxRecDepth 20000 in
theorem ggX7_meanError_X7_isThrown : GoodIn wsX7_meanError wsX7_isThrown := goodIn_r _ [20, 21, 62, 63, 64, 65, 66, 67, 68] (by decide +kernel) (by decide +kernel)
set_option maxRecDepth 20000 in
theorem gX7_meanError_X7_isThrown : GoodIn wsX7_meanError (wsV RX7 30 RX7 yX7_isThrown wsX7_isThrown) := goodIn_app (goodIn_of _ (by decide +kernel)) ggX7_meanError_X7_isThrown
set_option maxRecDepth 20000 in
theorem ggX7_meanError_X7_hasNone : GoodIn wsX7_meanError wsX7_hasNone := goodIn_r _ [25, 1, 2, 26, 27, 28, 11, 29, 13, 30, 31, 32, 33, 34, 35, 36, 37, 38, 39, 40, 41, 42, 43, 44, 45, 46, 62, 63, 64, 65, 66, 67, 68, 69, 70, 71, 72, 73, 74, 75, 76, 77, 78, 79, 80, 81, 82, 83, 84, 85, 86, 87, 88] (by decide +kernel) (by decide +kernel)
set_option maxRecDepth 20000 in
theorem gX7_meanError_X7_hasNone : GoodIn wsX7_meanError (wsV RX7 196 RX7 yX7_hasNone wsX7_hasNone) := goodIn_app (goodIn_of _ (by decide +kernel)) ggX7_meanError_X7_hasNone
set_option maxRecDepth 20000 in
theorem ggX7_meanError_Jx4a65c_get_915e3 : GoodIn wsX7_meanError wsJx4a65c_get_915e3 := goodIn_r _ [29, 13, 30, 31, 32, 33, 34, 35, 36, 37, 38, 39, 40, 11, 41, 42, 86, 87, 88] (by decide +kernel) (by decide +kernel)
set_option maxRecDepth 20000 in
theorem gX7_meanError_Jx4a65c_get_915e3 : GoodIn wsX7_meanError (wsV RX7 62 RJx4a65c yJx4a65c_get_915e3 wsJx4a65c_get_915e3) := goodIn_app (goodIn_of _ (by decide +kernel)) ggX7_meanError_Jx4a65c_get_915e3
set_option maxRecDepth 20000 in
theorem ggX7_meanError_Jx4a65c_size_8abf5 : GoodIn wsX7_meanError wsJx4a65c_size_8abf5 := goodIn_r _ [12, 13, 86, 87, 88] (by decide +kernel) (by decide +kernel)
set_option maxRecDepth 20000 in
theorem gX7_meanError_Jx4a65c_size_8abf5 : GoodIn wsX7_meanError (wsV RX7 34 RJx4a65c yJx4a65c_size_8abf5 wsJx4a65c_size_8abf5) := goodIn_app (goodIn_of _ (by decide +kernel)) ggX7_meanError_Jx4a65c_size_8abf5
set_option maxRecDepth 20000 in
theorem ggX7_meanError_X5_errorAt : GoodIn wsX7_meanError wsX5_errorAt := goodIn_r _ [51, 52, 53, 54, 55, 27, 28, 11, 29, 13, 30, 31, 32, 33, 34, 35, 36, 37, 38, 39, 40, 41, 42, 56, 57, 58, 59, 60, 61, 69, 70, 71, 72, 73, 74, 75, 76, 77, 78, 79, 80, 81, 82, 83, 84, 85, 86, 87, 88, 89] (by decide +kernel) (by decide +kernel)
set_option maxRecDepth 20000 in
theorem gX7_meanError_X5_errorAt : GoodIn wsX7_meanError (wsV RX7 199 RX5 yX5_errorAt wsX5_errorAt) := goodIn_app (goodIn_of _ (by decide +kernel)) ggX7_meanError_X5_errorAt
theorem dX7_meanError_0 : decode cX7_meanError 0 = .ok (.aload_n 0, 1) := by decide +kernel
theorem dX7_meanError_1 : decode cX7_meanError 1 = .ok (.aload_n 0, 1) := by decide +kernel
theorem dX7_meanError_2 : decode cX7_meanError 2 = .ok (.iload_n 1, 1) := by decide +kernel
theorem dX7_meanError_3 : decode cX7_meanError 3 = .ok (.invokevirtual 87, 3) := by decide +kernel
theorem dX7_meanError_6 : decode cX7_meanError 6 = .ok (.iconst 1, 1) := by decide +kernel
theorem dX7_meanError_7 : decode cX7_meanError 7 = .ok (.invokevirtual 30, 3) := by decide +kernel
theorem dX7_meanError_10 : decode cX7_meanError 10 = .ok (.ifCond .ne 16, 3) := by decide +kernel
theorem dX7_meanError_13 : decode cX7_meanError 13 = .ok (.aload_n 0, 1) := by decide +kernel
theorem dX7_meanError_14 : decode cX7_meanError 14 = .ok (.aload_n 0, 1) := by decide +kernel
theorem dX7_meanError_15 : decode cX7_meanError 15 = .ok (.iload_n 1, 1) := by decide +kernel
theorem dX7_meanError_16 : decode cX7_meanError 16 = .ok (.invokevirtual 196, 3) := by decide +kernel
theorem dX7_meanError_19 : decode cX7_meanError 19 = .ok (.iconst 2, 1) := by decide +kernel
theorem dX7_meanError_20 : decode cX7_meanError 20 = .ok (.invokevirtual 30, 3) := by decide +kernel
theorem dX7_meanError_23 : decode cX7_meanError 23 = .ok (.ifCond .eq 5, 3) := by decide +kernel
theorem dX7_meanError_26 : decode cX7_meanError 26 = .ok (.dconst 0, 1) := by decide +kernel
theorem dX7_meanError_27 : decode cX7_meanError 27 = .ok (.dreturn, 1) := by decide +kernel
theorem dX7_meanError_28 : decode cX7_meanError 28 = .ok (.aload_n 0, 1) := by decide +kernel
theorem dX7_meanError_29 : decode cX7_meanError 29 = .ok (.getfield 16, 3) := by decide +kernel
theorem dX7_meanError_32 : decode cX7_meanError 32 = .ok (.iload_n 1, 1) := by decide +kernel
theorem dX7_meanError_33 : decode cX7_meanError 33 = .ok (.invokevirtual 62, 3) := by decide +kernel
theorem dX7_meanError_36 : decode cX7_meanError 36 = .ok (.checkcast 79, 3) := by decide +kernel
theorem dX7_meanError_39 : decode cX7_meanError 39 = .ok (.astore_n 2, 1) := by decide +kernel
theorem dX7_meanError_40 : decode cX7_meanError 40 = .ok (.iconst 0, 1) := by decide +kernel
theorem dX7_meanError_41 : decode cX7_meanError 41 = .ok (.istore_n 3, 1) := by decide +kernel
theorem dX7_meanError_42 : decode cX7_meanError 42 = .ok (.iconst 0, 1) := by decide +kernel
theorem dX7_meanError_43 : decode cX7_meanError 43 = .ok (.istore 4, 2) := by decide +kernel
theorem dX7_meanError_45 : decode cX7_meanError 45 = .ok (.iload 4, 2) := by decide +kernel
theorem dX7_meanError_47 : decode cX7_meanError 47 = .ok (.aload_n 2, 1) := by decide +kernel
theorem dX7_meanError_48 : decode cX7_meanError 48 = .ok (.getfield 176, 3) := by decide +kernel
theorem dX7_meanError_51 : decode cX7_meanError 51 = .ok (.invokevirtual 34, 3) := by decide +kernel
theorem dX7_meanError_54 : decode cX7_meanError 54 = .ok (.if_icmp .ge 18, 3) := by decide +kernel
theorem dX7_meanError_57 : decode cX7_meanError 57 = .ok (.iload_n 3, 1) := by decide +kernel
theorem dX7_meanError_58 : decode cX7_meanError 58 = .ok (.aload_n 2, 1) := by decide +kernel
theorem dX7_meanError_59 : decode cX7_meanError 59 = .ok (.iload 4, 2) := by decide +kernel
theorem dX7_meanError_61 : decode cX7_meanError 61 = .ok (.invokevirtual 199, 3) := by decide +kernel
theorem dX7_meanError_64 : decode cX7_meanError 64 = .ok (.iadd, 1) := by decide +kernel
theorem dX7_meanError_65 : decode cX7_meanError 65 = .ok (.istore_n 3, 1) := by decide +kernel
theorem dX7_meanError_66 : decode cX7_meanError 66 = .ok (.iinc 4 1, 3) := by decide +kernel
theorem dX7_meanError_69 : decode cX7_meanError 69 = .ok (.goto (-24), 3) := by decide +kernel
theorem dX7_meanError_72 : decode cX7_meanError 72 = .ok (.iload_n 3, 1) := by decide +kernel
theorem dX7_meanError_73 : decode cX7_meanError 73 = .ok (.i2d, 1) := by decide +kernel
theorem dX7_meanError_74 : decode cX7_meanError 74 = .ok (.aload_n 2, 1) := by decide +kernel
theorem dX7_meanError_75 : decode cX7_meanError 75 = .ok (.getfield 176, 3) := by decide +kernel
theorem dX7_meanError_78 : decode cX7_meanError 78 = .ok (.invokevirtual 34, 3) := by decide +kernel
theorem dX7_meanError_81 : decode cX7_meanError 81 = .ok (.i2d, 1) := by decide +kernel
theorem dX7_meanError_82 : decode cX7_meanError 82 = .ok (.ddiv, 1) := by decide +kernel
theorem dX7_meanError_83 : decode cX7_meanError 83 = .ok (.dreturn, 1) := by decide +kernel
theorem dX7_isSound_0 : decode cX7_isSound 0 = .ok (.aload_n 0, 1) := by decide +kernel
theorem dX7_isSound_1 : decode cX7_isSound 1 = .ok (.iconst 0, 1) := by decide +kernel
theorem dX7_isSound_2 : decode cX7_isSound 2 = .ok (.putfield 23, 3) := by decide +kernel
theorem dX7_isSound_5 : decode cX7_isSound 5 = .ok (.iconst 1, 1) := by decide +kernel
theorem dX7_isSound_6 : decode cX7_isSound 6 = .ok (.ireturn, 1) := by decide +kernel
set_option maxRecDepth 20000 in
theorem ggJ6_valueOf_2dffe_J6_init_d00df : GoodIn wsJ6_valueOf_2dffe wsJ6_init_d00df := goodIn_r _ [8, 9, 10, 11, 12, 13, 14, 15, 16, 17] (by decide +kernel) (by decide +kernel)
set_option maxRecDepth 20000 in
theorem gJ6_valueOf_2dffe_J6_init_d00df : GoodIn wsJ6_valueOf_2dffe (wsJ6_init_d00df) := ggJ6_valueOf_2dffe_J6_init_d00df
theorem dJ6_valueOf_2dffe_0 : decode cJ6_valueOf_2dffe 0 = .ok (.iload_n 0, 1) := by decide +kernel
theorem dJ6_valueOf_2dffe_1 : decode cJ6_valueOf_2dffe 1 = .ok (.bipush (-128), 2) := by decide +kernel
theorem dJ6_valueOf_2dffe_3 : decode cJ6_valueOf_2dffe 3 = .ok (.if_icmp .lt 20, 3) := by decide +kernel
theorem dJ6_valueOf_2dffe_6 : decode cJ6_valueOf_2dffe 6 = .ok (.iload_n 0, 1) := by decide +kernel
theorem dJ6_valueOf_2dffe_7 : decode cJ6_valueOf_2dffe 7 = .ok (.getstatic 191, 3) := by decide +kernel
theorem dJ6_valueOf_2dffe_10 : decode cJ6_valueOf_2dffe 10 = .ok (.if_icmp .gt 13, 3) := by decide +kernel
theorem dJ6_valueOf_2dffe_13 : decode cJ6_valueOf_2dffe 13 = .ok (.getstatic 195, 3) := by decide +kernel
theorem dJ6_valueOf_2dffe_16 : decode cJ6_valueOf_2dffe 16 = .ok (.iload_n 0, 1) := by decide +kernel
theorem dJ6_valueOf_2dffe_17 : decode cJ6_valueOf_2dffe 17 = .ok (.sipush 128, 3) := by decide +kernel
theorem dJ6_valueOf_2dffe_20 : decode cJ6_valueOf_2dffe 20 = .ok (.iadd, 1) := by decide +kernel
theorem dJ6_valueOf_2dffe_21 : decode cJ6_valueOf_2dffe 21 = .ok (.aaload, 1) := by decide +kernel
theorem dJ6_valueOf_2dffe_22 : decode cJ6_valueOf_2dffe 22 = .ok (.areturn, 1) := by decide +kernel
theorem dJ6_valueOf_2dffe_23 : decode cJ6_valueOf_2dffe 23 = .ok (.new 1, 3) := by decide +kernel
theorem dJ6_valueOf_2dffe_26 : decode cJ6_valueOf_2dffe 26 = .ok (.dup, 1) := by decide +kernel
theorem dJ6_valueOf_2dffe_27 : decode cJ6_valueOf_2dffe 27 = .ok (.iload_n 0, 1) := by decide +kernel
theorem dJ6_valueOf_2dffe_28 : decode cJ6_valueOf_2dffe 28 = .ok (.invokespecial 199, 3) := by decide +kernel
theorem dJ6_valueOf_2dffe_31 : decode cJ6_valueOf_2dffe 31 = .ok (.areturn, 1) := by decide +kernel
set_option maxRecDepth 20000 in
theorem ggJ6_init_d00df_Jxd2413_init_da8c8 : GoodIn wsJ6_init_d00df wsJxd2413_init_da8c8 := goodIn_r _ [5, 6, 7, 8] (by decide +kernel) (by decide +kernel)
set_option maxRecDepth 20000 in
theorem gJ6_init_d00df_Jxd2413_init_da8c8 : GoodIn wsJ6_init_d00df (wsJxd2413_init_da8c8) := ggJ6_init_d00df_Jxd2413_init_da8c8
theorem dJ6_init_d00df_0 : decode cJ6_init_d00df 0 = .ok (.aload_n 0, 1) := by decide +kernel
theorem dJ6_init_d00df_1 : decode cJ6_init_d00df 1 = .ok (.invokespecial 202, 3) := by decide +kernel
theorem dJ6_init_d00df_4 : decode cJ6_init_d00df 4 = .ok (.aload_n 0, 1) := by decide +kernel
theorem dJ6_init_d00df_5 : decode cJ6_init_d00df 5 = .ok (.iload_n 1, 1) := by decide +kernel
theorem dJ6_init_d00df_6 : decode cJ6_init_d00df 6 = .ok (.putfield 205, 3) := by decide +kernel
theorem dJ6_init_d00df_9 : decode cJ6_init_d00df 9 = .ok (.return_, 1) := by decide +kernel
theorem dJ6_intValue_8abf5_0 : decode cJ6_intValue_8abf5 0 = .ok (.aload_n 0, 1) := by decide +kernel
theorem dJ6_intValue_8abf5_1 : decode cJ6_intValue_8abf5 1 = .ok (.getfield 205, 3) := by decide +kernel
theorem dJ6_intValue_8abf5_4 : decode cJ6_intValue_8abf5 4 = .ok (.ireturn, 1) := by decide +kernel
theorem dJ9_abs_0f7a4_0 : decode cJ9_abs_0f7a4 0 = .ok (.iload_n 0, 1) := by decide +kernel
theorem dJ9_abs_0f7a4_1 : decode cJ9_abs_0f7a4 1 = .ok (.ifCond .ge 8, 3) := by decide +kernel
theorem dJ9_abs_0f7a4_4 : decode cJ9_abs_0f7a4 4 = .ok (.iload_n 0, 1) := by decide +kernel
theorem dJ9_abs_0f7a4_5 : decode cJ9_abs_0f7a4 5 = .ok (.ineg, 1) := by decide +kernel
theorem dJ9_abs_0f7a4_6 : decode cJ9_abs_0f7a4 6 = .ok (.goto 4, 3) := by decide +kernel
theorem dJ9_abs_0f7a4_9 : decode cJ9_abs_0f7a4 9 = .ok (.iload_n 0, 1) := by decide +kernel
theorem dJ9_abs_0f7a4_10 : decode cJ9_abs_0f7a4 10 = .ok (.ireturn, 1) := by decide +kernel
theorem dJ9_max_7cf53_0 : decode cJ9_max_7cf53 0 = .ok (.iload_n 0, 1) := by decide +kernel
theorem dJ9_max_7cf53_1 : decode cJ9_max_7cf53 1 = .ok (.iload_n 1, 1) := by decide +kernel
theorem dJ9_max_7cf53_2 : decode cJ9_max_7cf53 2 = .ok (.if_icmp .lt 7, 3) := by decide +kernel
theorem dJ9_max_7cf53_5 : decode cJ9_max_7cf53 5 = .ok (.iload_n 0, 1) := by decide +kernel
theorem dJ9_max_7cf53_6 : decode cJ9_max_7cf53 6 = .ok (.goto 4, 3) := by decide +kernel
theorem dJ9_max_7cf53_9 : decode cJ9_max_7cf53 9 = .ok (.iload_n 1, 1) := by decide +kernel
theorem dJ9_max_7cf53_10 : decode cJ9_max_7cf53 10 = .ok (.ireturn, 1) := by decide +kernel
theorem dJ9_min_7cf53_0 : decode cJ9_min_7cf53 0 = .ok (.iload_n 0, 1) := by decide +kernel
theorem dJ9_min_7cf53_1 : decode cJ9_min_7cf53 1 = .ok (.iload_n 1, 1) := by decide +kernel
theorem dJ9_min_7cf53_2 : decode cJ9_min_7cf53 2 = .ok (.if_icmp .gt 7, 3) := by decide +kernel
theorem dJ9_min_7cf53_5 : decode cJ9_min_7cf53 5 = .ok (.iload_n 0, 1) := by decide +kernel
theorem dJ9_min_7cf53_6 : decode cJ9_min_7cf53 6 = .ok (.goto 4, 3) := by decide +kernel
theorem dJ9_min_7cf53_9 : decode cJ9_min_7cf53 9 = .ok (.iload_n 1, 1) := by decide +kernel
theorem dJ9_min_7cf53_10 : decode cJ9_min_7cf53 10 = .ok (.ireturn, 1) := by decide +kernel
theorem dJxd2413_init_da8c8_0 : decode cJxd2413_init_da8c8 0 = .ok (.aload_n 0, 1) := by decide +kernel
theorem dJxd2413_init_da8c8_1 : decode cJxd2413_init_da8c8 1 = .ok (.invokespecial 1, 3) := by decide +kernel
theorem dJxd2413_init_da8c8_4 : decode cJxd2413_init_da8c8 4 = .ok (.return_, 1) := by decide +kernel
theorem dJxa1e45_init_da8c8_0 : decode cJxa1e45_init_da8c8 0 = .ok (.aload_n 0, 1) := by decide +kernel
theorem dJxa1e45_init_da8c8_1 : decode cJxa1e45_init_da8c8 1 = .ok (.invokespecial 1, 3) := by decide +kernel
theorem dJxa1e45_init_da8c8_4 : decode cJxa1e45_init_da8c8 4 = .ok (.return_, 1) := by decide +kernel
set_option maxRecDepth 20000 in
theorem ggJxc12de_init_da8c8_Jxa1e45_init_da8c8 : GoodIn wsJxc12de_init_da8c8 wsJxa1e45_init_da8c8 := goodIn_r _ [5, 6, 7, 8] (by decide +kernel) (by decide +kernel)
set_option maxRecDepth 20000 in
theorem gJxc12de_init_da8c8_Jxa1e45_init_da8c8 : GoodIn wsJxc12de_init_da8c8 (wsJxa1e45_init_da8c8) := ggJxc12de_init_da8c8_Jxa1e45_init_da8c8
theorem dJxc12de_init_da8c8_0 : decode cJxc12de_init_da8c8 0 = .ok (.aload_n 0, 1) := by decide +kernel
theorem dJxc12de_init_da8c8_1 : decode cJxc12de_init_da8c8 1 = .ok (.invokespecial 1, 3) := by decide +kernel
theorem dJxc12de_init_da8c8_4 : decode cJxc12de_init_da8c8 4 = .ok (.aload_n 0, 1) := by decide +kernel
theorem dJxc12de_init_da8c8_5 : decode cJxc12de_init_da8c8 5 = .ok (.iconst 0, 1) := by decide +kernel
theorem dJxc12de_init_da8c8_6 : decode cJxc12de_init_da8c8 6 = .ok (.putfield 7, 3) := by decide +kernel
theorem dJxc12de_init_da8c8_9 : decode cJxc12de_init_da8c8 9 = .ok (.return_, 1) := by decide +kernel
theorem dJx35411_init_45d68_0 : decode cJx35411_init_45d68 0 = .ok (.aload_n 0, 1) := by decide +kernel
theorem dJx35411_init_45d68_1 : decode cJx35411_init_45d68 1 = .ok (.aload_n 1, 1) := by decide +kernel
theorem dJx35411_init_45d68_2 : decode cJx35411_init_45d68 2 = .ok (.putfield 1, 3) := by decide +kernel
theorem dJx35411_init_45d68_5 : decode cJx35411_init_45d68 5 = .ok (.aload_n 0, 1) := by decide +kernel
theorem dJx35411_init_45d68_6 : decode cJx35411_init_45d68 6 = .ok (.invokespecial 7, 3) := by decide +kernel
theorem dJx35411_init_45d68_9 : decode cJx35411_init_45d68 9 = .ok (.aload_n 0, 1) := by decide +kernel
theorem dJx35411_init_45d68_10 : decode cJx35411_init_45d68 10 = .ok (.iconst (-1), 1) := by decide +kernel
theorem dJx35411_init_45d68_11 : decode cJx35411_init_45d68 11 = .ok (.putfield 13, 3) := by decide +kernel
theorem dJx35411_init_45d68_14 : decode cJx35411_init_45d68 14 = .ok (.aload_n 0, 1) := by decide +kernel
theorem dJx35411_init_45d68_15 : decode cJx35411_init_45d68 15 = .ok (.aload_n 0, 1) := by decide +kernel
theorem dJx35411_init_45d68_16 : decode cJx35411_init_45d68 16 = .ok (.getfield 1, 3) := by decide +kernel
theorem dJx35411_init_45d68_19 : decode cJx35411_init_45d68 19 = .ok (.getfield 17, 3) := by decide +kernel
theorem dJx35411_init_45d68_22 : decode cJx35411_init_45d68 22 = .ok (.putfield 22, 3) := by decide +kernel
theorem dJx35411_init_45d68_25 : decode cJx35411_init_45d68 25 = .ok (.return_, 1) := by decide +kernel
theorem dJx35411_hasNext_aae02_0 : decode cJx35411_hasNext_aae02 0 = .ok (.aload_n 0, 1) := by decide +kernel
theorem dJx35411_hasNext_aae02_1 : decode cJx35411_hasNext_aae02 1 = .ok (.getfield 25, 3) := by decide +kernel
theorem dJx35411_hasNext_aae02_4 : decode cJx35411_hasNext_aae02 4 = .ok (.aload_n 0, 1) := by decide +kernel
theorem dJx35411_hasNext_aae02_5 : decode cJx35411_hasNext_aae02 5 = .ok (.getfield 1, 3) := by decide +kernel
theorem dJx35411_hasNext_aae02_8 : decode cJx35411_hasNext_aae02 8 = .ok (.getfield 28, 3) := by decide +kernel
theorem dJx35411_hasNext_aae02_11 : decode cJx35411_hasNext_aae02 11 = .ok (.if_icmp .eq 7, 3) := by decide +kernel
theorem dJx35411_hasNext_aae02_14 : decode cJx35411_hasNext_aae02 14 = .ok (.iconst 1, 1) := by decide +kernel
theorem dJx35411_hasNext_aae02_15 : decode cJx35411_hasNext_aae02 15 = .ok (.goto 4, 3) := by decide +kernel
theorem dJx35411_hasNext_aae02_18 : decode cJx35411_hasNext_aae02 18 = .ok (.iconst 0, 1) := by decide +kernel
theorem dJx35411_hasNext_aae02_19 : decode cJx35411_hasNext_aae02 19 = .ok (.ireturn, 1) := by decide +kernel
set_option maxRecDepth 20000 in
theorem ggJx35411_next_0502b_Jx35411_checkForComodification_da8c8 : GoodIn wsJx35411_next_0502b wsJx35411_checkForComodification_da8c8 := goodIn_r _ [9, 2, 10, 11, 12, 13, 14, 15, 16, 17, 18, 19] (by decide +kernel) (by decide +kernel)
set_option maxRecDepth 20000 in
theorem gJx35411_next_0502b_Jx35411_checkForComodification_da8c8 : GoodIn wsJx35411_next_0502b (wsV RJx35411 31 RJx35411 yJx35411_checkForComodification_da8c8 wsJx35411_checkForComodification_da8c8) := goodIn_app (goodIn_of _ (by decide +kernel)) ggJx35411_next_0502b_Jx35411_checkForComodification_da8c8
theorem dJx35411_next_0502b_0 : decode cJx35411_next_0502b 0 = .ok (.aload_n 0, 1) := by decide +kernel
theorem dJx35411_next_0502b_1 : decode cJx35411_next_0502b 1 = .ok (.invokevirtual 31, 3) := by decide +kernel
theorem dJx35411_next_0502b_4 : decode cJx35411_next_0502b 4 = .ok (.aload_n 0, 1) := by decide +kernel
theorem dJx35411_next_0502b_5 : decode cJx35411_next_0502b 5 = .ok (.getfield 25, 3) := by decide +kernel
theorem dJx35411_next_0502b_8 : decode cJx35411_next_0502b 8 = .ok (.istore_n 1, 1) := by decide +kernel
theorem dJx35411_next_0502b_9 : decode cJx35411_next_0502b 9 = .ok (.iload_n 1, 1) := by decide +kernel
theorem dJx35411_next_0502b_10 : decode cJx35411_next_0502b 10 = .ok (.aload_n 0, 1) := by decide +kernel
theorem dJx35411_next_0502b_11 : decode cJx35411_next_0502b 11 = .ok (.getfield 1, 3) := by decide +kernel
theorem dJx35411_next_0502b_14 : decode cJx35411_next_0502b 14 = .ok (.getfield 28, 3) := by decide +kernel
theorem dJx35411_next_0502b_17 : decode cJx35411_next_0502b 17 = .ok (.if_icmp .lt 11, 3) := by decide +kernel
theorem dJx35411_next_0502b_20 : decode cJx35411_next_0502b 20 = .ok (.new 34, 3) := by decide +kernel
theorem dJx35411_next_0502b_23 : decode cJx35411_next_0502b 23 = .ok (.dup, 1) := by decide +kernel
theorem dJx35411_next_0502b_24 : decode cJx35411_next_0502b 24 = .ok (.invokespecial 36, 3) := by decide +kernel
theorem dJx35411_next_0502b_27 : decode cJx35411_next_0502b 27 = .ok (.athrow, 1) := by decide +kernel
theorem dJx35411_next_0502b_28 : decode cJx35411_next_0502b 28 = .ok (.aload_n 0, 1) := by decide +kernel
theorem dJx35411_next_0502b_29 : decode cJx35411_next_0502b 29 = .ok (.getfield 1, 3) := by decide +kernel
theorem dJx35411_next_0502b_32 : decode cJx35411_next_0502b 32 = .ok (.getfield 37, 3) := by decide +kernel
theorem dJx35411_next_0502b_35 : decode cJx35411_next_0502b 35 = .ok (.astore_n 2, 1) := by decide +kernel
theorem dJx35411_next_0502b_36 : decode cJx35411_next_0502b 36 = .ok (.iload_n 1, 1) := by decide +kernel
theorem dJx35411_next_0502b_37 : decode cJx35411_next_0502b 37 = .ok (.aload_n 2, 1) := by decide +kernel
theorem dJx35411_next_0502b_38 : decode cJx35411_next_0502b 38 = .ok (.arraylength, 1) := by decide +kernel
theorem dJx35411_next_0502b_39 : decode cJx35411_next_0502b 39 = .ok (.if_icmp .lt 11, 3) := by decide +kernel
theorem dJx35411_next_0502b_42 : decode cJx35411_next_0502b 42 = .ok (.new 41, 3) := by decide +kernel
theorem dJx35411_next_0502b_45 : decode cJx35411_next_0502b 45 = .ok (.dup, 1) := by decide +kernel
theorem dJx35411_next_0502b_46 : decode cJx35411_next_0502b 46 = .ok (.invokespecial 43, 3) := by decide +kernel
theorem dJx35411_next_0502b_49 : decode cJx35411_next_0502b 49 = .ok (.athrow, 1) := by decide +kernel
theorem dJx35411_next_0502b_50 : decode cJx35411_next_0502b 50 = .ok (.aload_n 0, 1) := by decide +kernel
theorem dJx35411_next_0502b_51 : decode cJx35411_next_0502b 51 = .ok (.iload_n 1, 1) := by decide +kernel
theorem dJx35411_next_0502b_52 : decode cJx35411_next_0502b 52 = .ok (.iconst 1, 1) := by decide +kernel
theorem dJx35411_next_0502b_53 : decode cJx35411_next_0502b 53 = .ok (.iadd, 1) := by decide +kernel
theorem dJx35411_next_0502b_54 : decode cJx35411_next_0502b 54 = .ok (.putfield 25, 3) := by decide +kernel
theorem dJx35411_next_0502b_57 : decode cJx35411_next_0502b 57 = .ok (.aload_n 2, 1) := by decide +kernel
theorem dJx35411_next_0502b_58 : decode cJx35411_next_0502b 58 = .ok (.aload_n 0, 1) := by decide +kernel
theorem dJx35411_next_0502b_59 : decode cJx35411_next_0502b 59 = .ok (.iload_n 1, 1) := by decide +kernel
theorem dJx35411_next_0502b_60 : decode cJx35411_next_0502b 60 = .ok (.dup_x1, 1) := by decide +kernel
theorem dJx35411_next_0502b_61 : decode cJx35411_next_0502b 61 = .ok (.putfield 13, 3) := by decide +kernel
theorem dJx35411_next_0502b_64 : decode cJx35411_next_0502b 64 = .ok (.aaload, 1) := by decide +kernel
theorem dJx35411_next_0502b_65 : decode cJx35411_next_0502b 65 = .ok (.areturn, 1) := by decide +kernel
theorem dJx35411_checkForComodification_da8c8_0 : decode cJx35411_checkForComodification_da8c8 0 = .ok (.aload_n 0, 1) := by decide +kernel
theorem dJx35411_checkForComodification_da8c8_1 : decode cJx35411_checkForComodification_da8c8 1 = .ok (.getfield 1, 3) := by decide +kernel
theorem dJx35411_checkForComodification_da8c8_4 : decode cJx35411_checkForComodification_da8c8 4 = .ok (.getfield 17, 3) := by decide +kernel
theorem dJx35411_checkForComodification_da8c8_7 : decode cJx35411_checkForComodification_da8c8 7 = .ok (.aload_n 0, 1) := by decide +kernel
theorem dJx35411_checkForComodification_da8c8_8 : decode cJx35411_checkForComodification_da8c8 8 = .ok (.getfield 22, 3) := by decide +kernel
theorem dJx35411_checkForComodification_da8c8_11 : decode cJx35411_checkForComodification_da8c8 11 = .ok (.if_icmp .eq 11, 3) := by decide +kernel
theorem dJx35411_checkForComodification_da8c8_14 : decode cJx35411_checkForComodification_da8c8 14 = .ok (.new 41, 3) := by decide +kernel
theorem dJx35411_checkForComodification_da8c8_17 : decode cJx35411_checkForComodification_da8c8 17 = .ok (.dup, 1) := by decide +kernel
theorem dJx35411_checkForComodification_da8c8_18 : decode cJx35411_checkForComodification_da8c8 18 = .ok (.invokespecial 43, 3) := by decide +kernel
theorem dJx35411_checkForComodification_da8c8_21 : decode cJx35411_checkForComodification_da8c8 21 = .ok (.athrow, 1) := by decide +kernel
theorem dJx35411_checkForComodification_da8c8_22 : decode cJx35411_checkForComodification_da8c8 22 = .ok (.return_, 1) := by decide +kernel
set_option maxRecDepth 20000 in
theorem ggJx4a65c_init_da8c8_Jxc12de_init_da8c8 : GoodIn wsJx4a65c_init_da8c8 wsJxc12de_init_da8c8 := goodIn_r _ [6, 7, 8, 9, 10, 11, 12, 13, 14, 15, 16, 17] (by decide +kernel) (by decide +kernel)
set_option maxRecDepth 20000 in
theorem gJx4a65c_init_da8c8_Jxc12de_init_da8c8 : GoodIn wsJx4a65c_init_da8c8 (wsJxc12de_init_da8c8) := ggJx4a65c_init_da8c8_Jxc12de_init_da8c8
theorem dJx4a65c_init_da8c8_0 : decode cJx4a65c_init_da8c8 0 = .ok (.aload_n 0, 1) := by decide +kernel
theorem dJx4a65c_init_da8c8_1 : decode cJx4a65c_init_da8c8 1 = .ok (.invokespecial 1, 3) := by decide +kernel
theorem dJx4a65c_init_da8c8_4 : decode cJx4a65c_init_da8c8 4 = .ok (.aload_n 0, 1) := by decide +kernel
theorem dJx4a65c_init_da8c8_5 : decode cJx4a65c_init_da8c8 5 = .ok (.getstatic 39, 3) := by decide +kernel
theorem dJx4a65c_init_da8c8_8 : decode cJx4a65c_init_da8c8 8 = .ok (.putfield 9, 3) := by decide +kernel
theorem dJx4a65c_init_da8c8_11 : decode cJx4a65c_init_da8c8 11 = .ok (.return_, 1) := by decide +kernel
set_option maxRecDepth 20000 in
theorem ggJx4a65c_grow_92f84_J8_newLength_cabcc : GoodIn wsJx4a65c_grow_92f84 wsJ8_newLength_cabcc := goodIn_r _ [11, 12, 4, 5, 6, 13, 14, 15, 10, 16] (by decide +kernel) (by decide +kernel)
set_option maxRecDepth 20000 in
theorem gJx4a65c_grow_92f84_J8_newLength_cabcc : GoodIn wsJx4a65c_grow_92f84 (va_wsS RJx4a65c 73 yJ8_newLength_cabcc wsJ8_newLength_cabcc) := goodIn_app (goodIn_of _ (by decide +kernel)) ggJx4a65c_grow_92f84_J8_newLength_cabcc
set_option maxRecDepth 20000 in
theorem ggJx4a65c_grow_92f84_J7_copyOf_1904c : GoodIn wsJx4a65c_grow_92f84 wsJ7_copyOf_1904c := goodIn_r _ [20, 21, 22, 23, 24, 25, 26, 19, 27, 28, 29, 30, 31, 5, 32, 33, 34, 35, 36] (by decide +kernel) (by decide +kernel)
set_option maxRecDepth 20000 in
theorem gJx4a65c_grow_92f84_J7_copyOf_1904c : GoodIn wsJx4a65c_grow_92f84 (va_wsS RJx4a65c 66 yJ7_copyOf_1904c wsJ7_copyOf_1904c) := goodIn_app (goodIn_of _ (by decide +kernel)) ggJx4a65c_grow_92f84_J7_copyOf_1904c
theorem dJx4a65c_grow_92f84_0 : decode cJx4a65c_grow_92f84 0 = .ok (.aload_n 0, 1) := by decide +kernel
theorem dJx4a65c_grow_92f84_1 : decode cJx4a65c_grow_92f84 1 = .ok (.getfield 9, 3) := by decide +kernel
theorem dJx4a65c_grow_92f84_4 : decode cJx4a65c_grow_92f84 4 = .ok (.arraylength, 1) := by decide +kernel
theorem dJx4a65c_grow_92f84_5 : decode cJx4a65c_grow_92f84 5 = .ok (.istore_n 2, 1) := by decide +kernel
theorem dJx4a65c_grow_92f84_6 : decode cJx4a65c_grow_92f84 6 = .ok (.iload_n 2, 1) := by decide +kernel
theorem dJx4a65c_grow_92f84_7 : decode cJx4a65c_grow_92f84 7 = .ok (.ifCond .gt 13, 3) := by decide +kernel
theorem dJx4a65c_grow_92f84_10 : decode cJx4a65c_grow_92f84 10 = .ok (.aload_n 0, 1) := by decide +kernel
theorem dJx4a65c_grow_92f84_11 : decode cJx4a65c_grow_92f84 11 = .ok (.getfield 9, 3) := by decide +kernel
theorem dJx4a65c_grow_92f84_14 : decode cJx4a65c_grow_92f84 14 = .ok (.getstatic 39, 3) := by decide +kernel
theorem dJx4a65c_grow_92f84_17 : decode cJx4a65c_grow_92f84 17 = .ok (.if_acmp .eq 28, 3) := by decide +kernel
theorem dJx4a65c_grow_92f84_20 : decode cJx4a65c_grow_92f84 20 = .ok (.iload_n 2, 1) := by decide +kernel
theorem dJx4a65c_grow_92f84_21 : decode cJx4a65c_grow_92f84 21 = .ok (.iload_n 1, 1) := by decide +kernel
theorem dJx4a65c_grow_92f84_22 : decode cJx4a65c_grow_92f84 22 = .ok (.iload_n 2, 1) := by decide +kernel
theorem dJx4a65c_grow_92f84_23 : decode cJx4a65c_grow_92f84 23 = .ok (.isub, 1) := by decide +kernel
theorem dJx4a65c_grow_92f84_24 : decode cJx4a65c_grow_92f84 24 = .ok (.iload_n 2, 1) := by decide +kernel
theorem dJx4a65c_grow_92f84_25 : decode cJx4a65c_grow_92f84 25 = .ok (.iconst 1, 1) := by decide +kernel
theorem dJx4a65c_grow_92f84_26 : decode cJx4a65c_grow_92f84 26 = .ok (.ishr, 1) := by decide +kernel
theorem dJx4a65c_grow_92f84_27 : decode cJx4a65c_grow_92f84 27 = .ok (.invokestatic 73, 3) := by decide +kernel
theorem dJx4a65c_grow_92f84_30 : decode cJx4a65c_grow_92f84 30 = .ok (.istore_n 3, 1) := by decide +kernel
theorem dJx4a65c_grow_92f84_31 : decode cJx4a65c_grow_92f84 31 = .ok (.aload_n 0, 1) := by decide +kernel
theorem dJx4a65c_grow_92f84_32 : decode cJx4a65c_grow_92f84 32 = .ok (.aload_n 0, 1) := by decide +kernel
theorem dJx4a65c_grow_92f84_33 : decode cJx4a65c_grow_92f84 33 = .ok (.getfield 9, 3) := by decide +kernel
theorem dJx4a65c_grow_92f84_36 : decode cJx4a65c_grow_92f84 36 = .ok (.iload_n 3, 1) := by decide +kernel
theorem dJx4a65c_grow_92f84_37 : decode cJx4a65c_grow_92f84 37 = .ok (.invokestatic 66, 3) := by decide +kernel
theorem dJx4a65c_grow_92f84_40 : decode cJx4a65c_grow_92f84 40 = .ok (.dup_x1, 1) := by decide +kernel
theorem dJx4a65c_grow_92f84_41 : decode cJx4a65c_grow_92f84 41 = .ok (.putfield 9, 3) := by decide +kernel
theorem dJx4a65c_grow_92f84_44 : decode cJx4a65c_grow_92f84 44 = .ok (.areturn, 1) := by decide +kernel
theorem dJx4a65c_grow_92f84_45 : decode cJx4a65c_grow_92f84 45 = .ok (.aload_n 0, 1) := by decide +kernel
theorem dJx4a65c_grow_92f84_46 : decode cJx4a65c_grow_92f84 46 = .ok (.bipush 10, 2) := by decide +kernel
theorem dJx4a65c_grow_92f84_48 : decode cJx4a65c_grow_92f84 48 = .ok (.iload_n 1, 1) := by decide +kernel
theorem dJx4a65c_grow_92f84_49 : decode cJx4a65c_grow_92f84 49 = .ok (.invokestatic 79, 3) := by decide +kernel
theorem dJx4a65c_grow_92f84_52 : decode cJx4a65c_grow_92f84 52 = .ok (.anewarray 7, 3) := by decide +kernel
theorem dJx4a65c_grow_92f84_55 : decode cJx4a65c_grow_92f84 55 = .ok (.dup_x1, 1) := by decide +kernel
theorem dJx4a65c_grow_92f84_56 : decode cJx4a65c_grow_92f84 56 = .ok (.putfield 9, 3) := by decide +kernel
theorem dJx4a65c_grow_92f84_59 : decode cJx4a65c_grow_92f84 59 = .ok (.areturn, 1) := by decide +kernel
set_option maxRecDepth 20000 in
theorem ggJx4a65c_grow_d5877_Jx4a65c_grow_92f84 : GoodIn wsJx4a65c_grow_d5877 wsJx4a65c_grow_92f84 := goodIn_r _ [6, 7, 8, 9, 10, 11, 12, 13, 14, 15, 16, 17, 18, 19, 20, 21, 22, 23, 24, 25, 26, 27, 28, 29, 30, 31, 32, 33, 34, 35, 36, 37, 38, 39, 40, 41, 42, 43, 44, 45] (by decide +kernel) (by decide +kernel)
set_option maxRecDepth 20000 in
theorem gJx4a65c_grow_d5877_Jx4a65c_grow_92f84 : GoodIn wsJx4a65c_grow_d5877 (wsV RJx4a65c 69 RJx4a65c yJx4a65c_grow_92f84 wsJx4a65c_grow_92f84) := goodIn_app (goodIn_of _ (by decide +kernel)) ggJx4a65c_grow_d5877_Jx4a65c_grow_92f84
theorem dJx4a65c_grow_d5877_0 : decode cJx4a65c_grow_d5877 0 = .ok (.aload_n 0, 1) := by decide +kernel
theorem dJx4a65c_grow_d5877_1 : decode cJx4a65c_grow_d5877 1 = .ok (.aload_n 0, 1) := by decide +kernel
theorem dJx4a65c_grow_d5877_2 : decode cJx4a65c_grow_d5877 2 = .ok (.getfield 48, 3) := by decide +kernel
theorem dJx4a65c_grow_d5877_5 : decode cJx4a65c_grow_d5877 5 = .ok (.iconst 1, 1) := by decide +kernel
theorem dJx4a65c_grow_d5877_6 : decode cJx4a65c_grow_d5877 6 = .ok (.iadd, 1) := by decide +kernel
theorem dJx4a65c_grow_d5877_7 : decode cJx4a65c_grow_d5877 7 = .ok (.invokevirtual 69, 3) := by decide +kernel
theorem dJx4a65c_grow_d5877_10 : decode cJx4a65c_grow_d5877 10 = .ok (.areturn, 1) := by decide +kernel
theorem dJx4a65c_size_8abf5_0 : decode cJx4a65c_size_8abf5 0 = .ok (.aload_n 0, 1) := by decide +kernel
theorem dJx4a65c_size_8abf5_1 : decode cJx4a65c_size_8abf5 1 = .ok (.getfield 48, 3) := by decide +kernel
theorem dJx4a65c_size_8abf5_4 : decode cJx4a65c_size_8abf5 4 = .ok (.ireturn, 1) := by decide +kernel
theorem dJx4a65c_isEmpty_aae02_0 : decode cJx4a65c_isEmpty_aae02 0 = .ok (.aload_n 0, 1) := by decide +kernel
theorem dJx4a65c_isEmpty_aae02_1 : decode cJx4a65c_isEmpty_aae02 1 = .ok (.getfield 48, 3) := by decide +kernel
theorem dJx4a65c_isEmpty_aae02_4 : decode cJx4a65c_isEmpty_aae02 4 = .ok (.ifCond .ne 7, 3) := by decide +kernel
theorem dJx4a65c_isEmpty_aae02_7 : decode cJx4a65c_isEmpty_aae02 7 = .ok (.iconst 1, 1) := by decide +kernel
theorem dJx4a65c_isEmpty_aae02_8 : decode cJx4a65c_isEmpty_aae02 8 = .ok (.goto 4, 3) := by decide +kernel
theorem dJx4a65c_isEmpty_aae02_11 : decode cJx4a65c_isEmpty_aae02 11 = .ok (.iconst 0, 1) := by decide +kernel
theorem dJx4a65c_isEmpty_aae02_12 : decode cJx4a65c_isEmpty_aae02 12 = .ok (.ireturn, 1) := by decide +kernel
theorem dJx4a65c_elementData_915e3_0 : decode cJx4a65c_elementData_915e3 0 = .ok (.aload_n 0, 1) := by decide +kernel
theorem dJx4a65c_elementData_915e3_1 : decode cJx4a65c_elementData_915e3 1 = .ok (.getfield 9, 3) := by decide +kernel
theorem dJx4a65c_elementData_915e3_4 : decode cJx4a65c_elementData_915e3 4 = .ok (.iload_n 1, 1) := by decide +kernel
theorem dJx4a65c_elementData_915e3_5 : decode cJx4a65c_elementData_915e3 5 = .ok (.aaload, 1) := by decide +kernel
theorem dJx4a65c_elementData_915e3_6 : decode cJx4a65c_elementData_915e3 6 = .ok (.areturn, 1) := by decide +kernel
set_option maxRecDepth 20000 in
theorem ggJx4a65c_get_915e3_J15_checkIndex_7cf53 : GoodIn wsJx4a65c_get_915e3 wsJ15_checkIndex_7cf53 := goodIn_r _ [5, 6, 7, 8, 9] (by decide +kernel) (by decide +kernel)
set_option maxRecDepth 20000 in
theorem gJx4a65c_get_915e3_J15_checkIndex_7cf53 : GoodIn wsJx4a65c_get_915e3 (va_wsS RJx4a65c 118 yJ15_checkIndex_7cf53 wsJ15_checkIndex_7cf53) := goodIn_app (goodIn_of _ (by decide +kernel)) ggJx4a65c_get_915e3_J15_checkIndex_7cf53
set_option maxRecDepth 20000 in
theorem ggJx4a65c_get_915e3_Jx4a65c_elementData_915e3 : GoodIn wsJx4a65c_get_915e3 wsJx4a65c_elementData_915e3 := goodIn_r _ [14, 15, 16, 17, 18] (by decide +kernel) (by decide +kernel)
set_option maxRecDepth 20000 in
theorem gJx4a65c_get_915e3_Jx4a65c_elementData_915e3 : GoodIn wsJx4a65c_get_915e3 (wsV RJx4a65c 123 RJx4a65c yJx4a65c_elementData_915e3 wsJx4a65c_elementData_915e3) := goodIn_app (goodIn_of _ (by decide +kernel)) ggJx4a65c_get_915e3_Jx4a65c_elementData_915e3
theorem dJx4a65c_get_915e3_0 : decode cJx4a65c_get_915e3 0 = .ok (.iload_n 1, 1) := by decide +kernel
theorem dJx4a65c_get_915e3_1 : decode cJx4a65c_get_915e3 1 = .ok (.aload_n 0, 1) := by decide +kernel
theorem dJx4a65c_get_915e3_2 : decode cJx4a65c_get_915e3 2 = .ok (.getfield 48, 3) := by decide +kernel
theorem dJx4a65c_get_915e3_5 : decode cJx4a65c_get_915e3 5 = .ok (.invokestatic 118, 3) := by decide +kernel
theorem dJx4a65c_get_915e3_8 : decode cJx4a65c_get_915e3 8 = .ok (.pop, 1) := by decide +kernel
theorem dJx4a65c_get_915e3_9 : decode cJx4a65c_get_915e3 9 = .ok (.aload_n 0, 1) := by decide +kernel
theorem dJx4a65c_get_915e3_10 : decode cJx4a65c_get_915e3 10 = .ok (.iload_n 1, 1) := by decide +kernel
theorem dJx4a65c_get_915e3_11 : decode cJx4a65c_get_915e3 11 = .ok (.invokevirtual 123, 3) := by decide +kernel
theorem dJx4a65c_get_915e3_14 : decode cJx4a65c_get_915e3 14 = .ok (.areturn, 1) := by decide +kernel
set_option maxRecDepth 20000 in
theorem ggJx4a65c_add_72be8_Jx4a65c_grow_d5877 : GoodIn wsJx4a65c_add_72be8 wsJx4a65c_grow_d5877 := goodIn_r _ [6, 1, 7, 8, 9, 5, 10, 11, 12, 13, 14, 15, 16, 17, 18, 19, 20, 21, 22, 23, 24, 25, 26, 27, 28, 29, 30, 31, 32, 33, 34, 35, 36, 37, 38, 39, 40, 41, 42, 43, 44, 45, 46, 47, 48, 49] (by decide +kernel) (by decide +kernel)
set_option maxRecDepth 20000 in
theorem gJx4a65c_add_72be8_Jx4a65c_grow_d5877 : GoodIn wsJx4a65c_add_72be8 (wsV RJx4a65c 129 RJx4a65c yJx4a65c_grow_d5877 wsJx4a65c_grow_d5877) := goodIn_app (goodIn_of _ (by decide +kernel)) ggJx4a65c_add_72be8_Jx4a65c_grow_d5877
theorem dJx4a65c_add_72be8_0 : decode cJx4a65c_add_72be8 0 = .ok (.iload_n 3, 1) := by decide +kernel
theorem dJx4a65c_add_72be8_1 : decode cJx4a65c_add_72be8 1 = .ok (.aload_n 2, 1) := by decide +kernel
theorem dJx4a65c_add_72be8_2 : decode cJx4a65c_add_72be8 2 = .ok (.arraylength, 1) := by decide +kernel
theorem dJx4a65c_add_72be8_3 : decode cJx4a65c_add_72be8 3 = .ok (.if_icmp .ne 8, 3) := by decide +kernel
theorem dJx4a65c_add_72be8_6 : decode cJx4a65c_add_72be8 6 = .ok (.aload_n 0, 1) := by decide +kernel
theorem dJx4a65c_add_72be8_7 : decode cJx4a65c_add_72be8 7 = .ok (.invokevirtual 129, 3) := by decide +kernel
theorem dJx4a65c_add_72be8_10 : decode cJx4a65c_add_72be8 10 = .ok (.astore_n 2, 1) := by decide +kernel
theorem dJx4a65c_add_72be8_11 : decode cJx4a65c_add_72be8 11 = .ok (.aload_n 2, 1) := by decide +kernel
theorem dJx4a65c_add_72be8_12 : decode cJx4a65c_add_72be8 12 = .ok (.iload_n 3, 1) := by decide +kernel
theorem dJx4a65c_add_72be8_13 : decode cJx4a65c_add_72be8 13 = .ok (.aload_n 1, 1) := by decide +kernel
theorem dJx4a65c_add_72be8_14 : decode cJx4a65c_add_72be8 14 = .ok (.aastore, 1) := by decide +kernel
theorem dJx4a65c_add_72be8_15 : decode cJx4a65c_add_72be8 15 = .ok (.aload_n 0, 1) := by decide +kernel
theorem dJx4a65c_add_72be8_16 : decode cJx4a65c_add_72be8 16 = .ok (.iload_n 3, 1) := by decide +kernel
theorem dJx4a65c_add_72be8_17 : decode cJx4a65c_add_72be8 17 = .ok (.iconst 1, 1) := by decide +kernel
theorem dJx4a65c_add_72be8_18 : decode cJx4a65c_add_72be8 18 = .ok (.iadd, 1) := by decide +kernel
theorem dJx4a65c_add_72be8_19 : decode cJx4a65c_add_72be8 19 = .ok (.putfield 48, 3) := by decide +kernel
theorem dJx4a65c_add_72be8_22 : decode cJx4a65c_add_72be8 22 = .ok (.return_, 1) := by decide +kernel
set_option maxRecDepth 20000 in
theorem ggJx4a65c_add_9ea2d_Jx4a65c_add_72be8 : GoodIn wsJx4a65c_add_9ea2d wsJx4a65c_add_72be8 := goodIn_r _ [9, 4, 10, 11, 12, 8, 13, 14, 15, 16, 17, 3, 18, 19, 20, 21, 22, 23, 24, 25, 26, 27, 28, 29, 30, 31, 32, 33, 34, 35, 36, 37, 38, 39, 40, 41, 42, 43, 44, 45, 46, 47, 48, 49, 50, 51, 52, 53, 54, 55] (by decide +kernel) (by decide +kernel)
set_option maxRecDepth 20000 in
theorem gJx4a65c_add_9ea2d_Jx4a65c_add_72be8 : GoodIn wsJx4a65c_add_9ea2d (wsV RJx4a65c 131 RJx4a65c yJx4a65c_add_72be8 wsJx4a65c_add_72be8) := goodIn_app (goodIn_of _ (by decide +kernel)) ggJx4a65c_add_9ea2d_Jx4a65c_add_72be8
theorem dJx4a65c_add_9ea2d_0 : decode cJx4a65c_add_9ea2d 0 = .ok (.aload_n 0, 1) := by decide +kernel
theorem dJx4a65c_add_9ea2d_1 : decode cJx4a65c_add_9ea2d 1 = .ok (.dup, 1) := by decide +kernel
theorem dJx4a65c_add_9ea2d_2 : decode cJx4a65c_add_9ea2d 2 = .ok (.getfield 63, 3) := by decide +kernel
theorem dJx4a65c_add_9ea2d_5 : decode cJx4a65c_add_9ea2d 5 = .ok (.iconst 1, 1) := by decide +kernel
theorem dJx4a65c_add_9ea2d_6 : decode cJx4a65c_add_9ea2d 6 = .ok (.iadd, 1) := by decide +kernel
theorem dJx4a65c_add_9ea2d_7 : decode cJx4a65c_add_9ea2d 7 = .ok (.putfield 63, 3) := by decide +kernel
theorem dJx4a65c_add_9ea2d_10 : decode cJx4a65c_add_9ea2d 10 = .ok (.aload_n 0, 1) := by decide +kernel
theorem dJx4a65c_add_9ea2d_11 : decode cJx4a65c_add_9ea2d 11 = .ok (.aload_n 1, 1) := by decide +kernel
theorem dJx4a65c_add_9ea2d_12 : decode cJx4a65c_add_9ea2d 12 = .ok (.aload_n 0, 1) := by decide +kernel
theorem dJx4a65c_add_9ea2d_13 : decode cJx4a65c_add_9ea2d 13 = .ok (.getfield 9, 3) := by decide +kernel
theorem dJx4a65c_add_9ea2d_16 : decode cJx4a65c_add_9ea2d 16 = .ok (.aload_n 0, 1) := by decide +kernel
theorem dJx4a65c_add_9ea2d_17 : decode cJx4a65c_add_9ea2d 17 = .ok (.getfield 48, 3) := by decide +kernel
theorem dJx4a65c_add_9ea2d_20 : decode cJx4a65c_add_9ea2d 20 = .ok (.invokevirtual 131, 3) := by decide +kernel
theorem dJx4a65c_add_9ea2d_23 : decode cJx4a65c_add_9ea2d 23 = .ok (.iconst 1, 1) := by decide +kernel
theorem dJx4a65c_add_9ea2d_24 : decode cJx4a65c_add_9ea2d 24 = .ok (.ireturn, 1) := by decide +kernel
set_option maxRecDepth 20000 in
theorem ggJx4a65c_remove_915e3_J15_checkIndex_7cf53 : GoodIn wsJx4a65c_remove_915e3 wsJ15_checkIndex_7cf53 := goodIn_r _ [6, 7, 8, 9, 10] (by decide +kernel) (by decide +kernel)
set_option maxRecDepth 20000 in
theorem gJx4a65c_remove_915e3_J15_checkIndex_7cf53 : GoodIn wsJx4a65c_remove_915e3 (va_wsS RJx4a65c 118 yJ15_checkIndex_7cf53 wsJ15_checkIndex_7cf53) := goodIn_app (goodIn_of _ (by decide +kernel)) ggJx4a65c_remove_915e3_J15_checkIndex_7cf53
set_option maxRecDepth 20000 in
theorem ggJx4a65c_remove_915e3_Jx4a65c_fastRemove_b59b0 : GoodIn wsJx4a65c_remove_915e3 wsJx4a65c_fastRemove_b59b0 := goodIn_r _ [15, 16, 17, 1, 18, 19, 20, 21, 22, 23, 24] (by decide +kernel) (by decide +kernel)
set_option maxRecDepth 20000 in
theorem gJx4a65c_remove_915e3_Jx4a65c_fastRemove_b59b0 : GoodIn wsJx4a65c_remove_915e3 (wsV RJx4a65c 144 RJx4a65c yJx4a65c_fastRemove_b59b0 wsJx4a65c_fastRemove_b59b0) := goodIn_app (goodIn_of _ (by decide +kernel)) ggJx4a65c_remove_915e3_Jx4a65c_fastRemove_b59b0
theorem dJx4a65c_remove_915e3_0 : decode cJx4a65c_remove_915e3 0 = .ok (.iload_n 1, 1) := by decide +kernel
theorem dJx4a65c_remove_915e3_1 : decode cJx4a65c_remove_915e3 1 = .ok (.aload_n 0, 1) := by decide +kernel
theorem dJx4a65c_remove_915e3_2 : decode cJx4a65c_remove_915e3 2 = .ok (.getfield 48, 3) := by decide +kernel
theorem dJx4a65c_remove_915e3_5 : decode cJx4a65c_remove_915e3 5 = .ok (.invokestatic 118, 3) := by decide +kernel
theorem dJx4a65c_remove_915e3_8 : decode cJx4a65c_remove_915e3 8 = .ok (.pop, 1) := by decide +kernel
theorem dJx4a65c_remove_915e3_9 : decode cJx4a65c_remove_915e3 9 = .ok (.aload_n 0, 1) := by decide +kernel
theorem dJx4a65c_remove_915e3_10 : decode cJx4a65c_remove_915e3 10 = .ok (.getfield 9, 3) := by decide +kernel
theorem dJx4a65c_remove_915e3_13 : decode cJx4a65c_remove_915e3 13 = .ok (.astore_n 2, 1) := by decide +kernel
theorem dJx4a65c_remove_915e3_14 : decode cJx4a65c_remove_915e3 14 = .ok (.aload_n 2, 1) := by decide +kernel
theorem dJx4a65c_remove_915e3_15 : decode cJx4a65c_remove_915e3 15 = .ok (.iload_n 1, 1) := by decide +kernel
theorem dJx4a65c_remove_915e3_16 : decode cJx4a65c_remove_915e3 16 = .ok (.aaload, 1) := by decide +kernel
theorem dJx4a65c_remove_915e3_17 : decode cJx4a65c_remove_915e3 17 = .ok (.astore_n 3, 1) := by decide +kernel
theorem dJx4a65c_remove_915e3_18 : decode cJx4a65c_remove_915e3 18 = .ok (.aload_n 0, 1) := by decide +kernel
theorem dJx4a65c_remove_915e3_19 : decode cJx4a65c_remove_915e3 19 = .ok (.aload_n 2, 1) := by decide +kernel
theorem dJx4a65c_remove_915e3_20 : decode cJx4a65c_remove_915e3 20 = .ok (.iload_n 1, 1) := by decide +kernel
theorem dJx4a65c_remove_915e3_21 : decode cJx4a65c_remove_915e3 21 = .ok (.invokevirtual 144, 3) := by decide +kernel
theorem dJx4a65c_remove_915e3_24 : decode cJx4a65c_remove_915e3 24 = .ok (.aload_n 3, 1) := by decide +kernel
theorem dJx4a65c_remove_915e3_25 : decode cJx4a65c_remove_915e3 25 = .ok (.areturn, 1) := by decide +kernel
theorem dJx4a65c_fastRemove_b59b0_0 : decode cJx4a65c_fastRemove_b59b0 0 = .ok (.aload_n 0, 1) := by decide +kernel
theorem dJx4a65c_fastRemove_b59b0_1 : decode cJx4a65c_fastRemove_b59b0 1 = .ok (.dup, 1) := by decide +kernel
theorem dJx4a65c_fastRemove_b59b0_2 : decode cJx4a65c_fastRemove_b59b0 2 = .ok (.getfield 63, 3) := by decide +kernel
theorem dJx4a65c_fastRemove_b59b0_5 : decode cJx4a65c_fastRemove_b59b0 5 = .ok (.iconst 1, 1) := by decide +kernel
theorem dJx4a65c_fastRemove_b59b0_6 : decode cJx4a65c_fastRemove_b59b0 6 = .ok (.iadd, 1) := by decide +kernel
theorem dJx4a65c_fastRemove_b59b0_7 : decode cJx4a65c_fastRemove_b59b0 7 = .ok (.putfield 63, 3) := by decide +kernel
theorem dJx4a65c_fastRemove_b59b0_10 : decode cJx4a65c_fastRemove_b59b0 10 = .ok (.aload_n 0, 1) := by decide +kernel
theorem dJx4a65c_fastRemove_b59b0_11 : decode cJx4a65c_fastRemove_b59b0 11 = .ok (.getfield 48, 3) := by decide +kernel
theorem dJx4a65c_fastRemove_b59b0_14 : decode cJx4a65c_fastRemove_b59b0 14 = .ok (.iconst 1, 1) := by decide +kernel
theorem dJx4a65c_fastRemove_b59b0_15 : decode cJx4a65c_fastRemove_b59b0 15 = .ok (.isub, 1) := by decide +kernel
theorem dJx4a65c_fastRemove_b59b0_16 : decode cJx4a65c_fastRemove_b59b0 16 = .ok (.dup, 1) := by decide +kernel
theorem dJx4a65c_fastRemove_b59b0_17 : decode cJx4a65c_fastRemove_b59b0 17 = .ok (.istore_n 3, 1) := by decide +kernel
theorem dJx4a65c_fastRemove_b59b0_18 : decode cJx4a65c_fastRemove_b59b0 18 = .ok (.iload_n 2, 1) := by decide +kernel
theorem dJx4a65c_fastRemove_b59b0_19 : decode cJx4a65c_fastRemove_b59b0 19 = .ok (.if_icmp .le 15, 3) := by decide +kernel
theorem dJx4a65c_fastRemove_b59b0_22 : decode cJx4a65c_fastRemove_b59b0 22 = .ok (.aload_n 1, 1) := by decide +kernel
theorem dJx4a65c_fastRemove_b59b0_23 : decode cJx4a65c_fastRemove_b59b0 23 = .ok (.iload_n 2, 1) := by decide +kernel
theorem dJx4a65c_fastRemove_b59b0_24 : decode cJx4a65c_fastRemove_b59b0 24 = .ok (.iconst 1, 1) := by decide +kernel
theorem dJx4a65c_fastRemove_b59b0_25 : decode cJx4a65c_fastRemove_b59b0 25 = .ok (.iadd, 1) := by decide +kernel
theorem dJx4a65c_fastRemove_b59b0_26 : decode cJx4a65c_fastRemove_b59b0 26 = .ok (.aload_n 1, 1) := by decide +kernel
theorem dJx4a65c_fastRemove_b59b0_27 : decode cJx4a65c_fastRemove_b59b0 27 = .ok (.iload_n 2, 1) := by decide +kernel
theorem dJx4a65c_fastRemove_b59b0_28 : decode cJx4a65c_fastRemove_b59b0 28 = .ok (.iload_n 3, 1) := by decide +kernel
theorem dJx4a65c_fastRemove_b59b0_29 : decode cJx4a65c_fastRemove_b59b0 29 = .ok (.iload_n 2, 1) := by decide +kernel
theorem dJx4a65c_fastRemove_b59b0_30 : decode cJx4a65c_fastRemove_b59b0 30 = .ok (.isub, 1) := by decide +kernel
theorem dJx4a65c_fastRemove_b59b0_31 : decode cJx4a65c_fastRemove_b59b0 31 = .ok (.invokestatic 112, 3) := by decide +kernel
theorem dJx4a65c_fastRemove_b59b0_34 : decode cJx4a65c_fastRemove_b59b0 34 = .ok (.aload_n 1, 1) := by decide +kernel
theorem dJx4a65c_fastRemove_b59b0_35 : decode cJx4a65c_fastRemove_b59b0 35 = .ok (.aload_n 0, 1) := by decide +kernel
theorem dJx4a65c_fastRemove_b59b0_36 : decode cJx4a65c_fastRemove_b59b0 36 = .ok (.iload_n 3, 1) := by decide +kernel
theorem dJx4a65c_fastRemove_b59b0_37 : decode cJx4a65c_fastRemove_b59b0 37 = .ok (.dup_x1, 1) := by decide +kernel
theorem dJx4a65c_fastRemove_b59b0_38 : decode cJx4a65c_fastRemove_b59b0 38 = .ok (.putfield 48, 3) := by decide +kernel
theorem dJx4a65c_fastRemove_b59b0_41 : decode cJx4a65c_fastRemove_b59b0 41 = .ok (.aconst_null, 1) := by decide +kernel
theorem dJx4a65c_fastRemove_b59b0_42 : decode cJx4a65c_fastRemove_b59b0 42 = .ok (.aastore, 1) := by decide +kernel
theorem dJx4a65c_fastRemove_b59b0_43 : decode cJx4a65c_fastRemove_b59b0 43 = .ok (.return_, 1) := by decide +kernel
theorem dJx4a65c_clear_da8c8_0 : decode cJx4a65c_clear_da8c8 0 = .ok (.aload_n 0, 1) := by decide +kernel
theorem dJx4a65c_clear_da8c8_1 : decode cJx4a65c_clear_da8c8 1 = .ok (.dup, 1) := by decide +kernel
theorem dJx4a65c_clear_da8c8_2 : decode cJx4a65c_clear_da8c8 2 = .ok (.getfield 63, 3) := by decide +kernel
theorem dJx4a65c_clear_da8c8_5 : decode cJx4a65c_clear_da8c8 5 = .ok (.iconst 1, 1) := by decide +kernel
theorem dJx4a65c_clear_da8c8_6 : decode cJx4a65c_clear_da8c8 6 = .ok (.iadd, 1) := by decide +kernel
theorem dJx4a65c_clear_da8c8_7 : decode cJx4a65c_clear_da8c8 7 = .ok (.putfield 63, 3) := by decide +kernel
theorem dJx4a65c_clear_da8c8_10 : decode cJx4a65c_clear_da8c8 10 = .ok (.aload_n 0, 1) := by decide +kernel
theorem dJx4a65c_clear_da8c8_11 : decode cJx4a65c_clear_da8c8 11 = .ok (.getfield 9, 3) := by decide +kernel
theorem dJx4a65c_clear_da8c8_14 : decode cJx4a65c_clear_da8c8 14 = .ok (.astore_n 1, 1) := by decide +kernel
theorem dJx4a65c_clear_da8c8_15 : decode cJx4a65c_clear_da8c8 15 = .ok (.aload_n 0, 1) := by decide +kernel
theorem dJx4a65c_clear_da8c8_16 : decode cJx4a65c_clear_da8c8 16 = .ok (.getfield 48, 3) := by decide +kernel
theorem dJx4a65c_clear_da8c8_19 : decode cJx4a65c_clear_da8c8 19 = .ok (.istore_n 2, 1) := by decide +kernel
theorem dJx4a65c_clear_da8c8_20 : decode cJx4a65c_clear_da8c8 20 = .ok (.aload_n 0, 1) := by decide +kernel
theorem dJx4a65c_clear_da8c8_21 : decode cJx4a65c_clear_da8c8 21 = .ok (.iconst 0, 1) := by decide +kernel
theorem dJx4a65c_clear_da8c8_22 : decode cJx4a65c_clear_da8c8 22 = .ok (.dup_x1, 1) := by decide +kernel
theorem dJx4a65c_clear_da8c8_23 : decode cJx4a65c_clear_da8c8 23 = .ok (.putfield 48, 3) := by decide +kernel
theorem dJx4a65c_clear_da8c8_26 : decode cJx4a65c_clear_da8c8 26 = .ok (.istore_n 3, 1) := by decide +kernel
theorem dJx4a65c_clear_da8c8_27 : decode cJx4a65c_clear_da8c8 27 = .ok (.iload_n 3, 1) := by decide +kernel
theorem dJx4a65c_clear_da8c8_28 : decode cJx4a65c_clear_da8c8 28 = .ok (.iload_n 2, 1) := by decide +kernel
theorem dJx4a65c_clear_da8c8_29 : decode cJx4a65c_clear_da8c8 29 = .ok (.if_icmp .ge 13, 3) := by decide +kernel
theorem dJx4a65c_clear_da8c8_32 : decode cJx4a65c_clear_da8c8 32 = .ok (.aload_n 1, 1) := by decide +kernel
theorem dJx4a65c_clear_da8c8_33 : decode cJx4a65c_clear_da8c8 33 = .ok (.iload_n 3, 1) := by decide +kernel
theorem dJx4a65c_clear_da8c8_34 : decode cJx4a65c_clear_da8c8 34 = .ok (.aconst_null, 1) := by decide +kernel
theorem dJx4a65c_clear_da8c8_35 : decode cJx4a65c_clear_da8c8 35 = .ok (.aastore, 1) := by decide +kernel
theorem dJx4a65c_clear_da8c8_36 : decode cJx4a65c_clear_da8c8 36 = .ok (.iinc 3 1, 3) := by decide +kernel
theorem dJx4a65c_clear_da8c8_39 : decode cJx4a65c_clear_da8c8 39 = .ok (.goto (-12), 3) := by decide +kernel
theorem dJx4a65c_clear_da8c8_42 : decode cJx4a65c_clear_da8c8 42 = .ok (.return_, 1) := by decide +kernel
set_option maxRecDepth 20000 in
theorem ggJx4a65c_iterator_32c93_Jx35411_init_45d68 : GoodIn wsJx4a65c_iterator_32c93 wsJx35411_init_45d68 := goodIn_r _ [6, 7, 8, 9, 10, 11, 12, 13, 14, 15, 16, 17, 18, 19, 20, 21] (by decide +kernel) (by decide +kernel)
set_option maxRecDepth 20000 in
theorem gJx4a65c_iterator_32c93_Jx35411_init_45d68 : GoodIn wsJx4a65c_iterator_32c93 (wsJx35411_init_45d68) := ggJx4a65c_iterator_32c93_Jx35411_init_45d68
theorem dJx4a65c_iterator_32c93_0 : decode cJx4a65c_iterator_32c93 0 = .ok (.new 267, 3) := by decide +kernel
theorem dJx4a65c_iterator_32c93_3 : decode cJx4a65c_iterator_32c93 3 = .ok (.dup, 1) := by decide +kernel
theorem dJx4a65c_iterator_32c93_4 : decode cJx4a65c_iterator_32c93 4 = .ok (.aload_n 0, 1) := by decide +kernel
theorem dJx4a65c_iterator_32c93_5 : decode cJx4a65c_iterator_32c93 5 = .ok (.invokespecial 269, 3) := by decide +kernel
theorem dJx4a65c_iterator_32c93_8 : decode cJx4a65c_iterator_32c93 8 = .ok (.areturn, 1) := by decide +kernel
set_option maxRecDepth 20000 in
theorem ggJ7_copyOf_1904c_J7_copyOf_6403c : GoodIn wsJ7_copyOf_1904c wsJ7_copyOf_6403c := goodIn_r _ [8, 9, 10, 11, 12, 13, 14, 15, 16, 17, 18] (by decide +kernel) (by decide +kernel)
set_option maxRecDepth 20000 in
theorem gJ7_copyOf_1904c_J7_copyOf_6403c : GoodIn wsJ7_copyOf_1904c (va_wsS RJ7 300 yJ7_copyOf_6403c wsJ7_copyOf_6403c) := goodIn_app (goodIn_of _ (by decide +kernel)) ggJ7_copyOf_1904c_J7_copyOf_6403c
theorem dJ7_copyOf_1904c_0 : decode cJ7_copyOf_1904c 0 = .ok (.aload_n 0, 1) := by decide +kernel
theorem dJ7_copyOf_1904c_1 : decode cJ7_copyOf_1904c 1 = .ok (.iload_n 1, 1) := by decide +kernel
theorem dJ7_copyOf_1904c_2 : decode cJ7_copyOf_1904c 2 = .ok (.aload_n 0, 1) := by decide +kernel
theorem dJ7_copyOf_1904c_3 : decode cJ7_copyOf_1904c 3 = .ok (.invokevirtual 86, 3) := by decide +kernel
theorem dJ7_copyOf_1904c_6 : decode cJ7_copyOf_1904c 6 = .ok (.invokestatic 300, 3) := by decide +kernel
theorem dJ7_copyOf_1904c_9 : decode cJ7_copyOf_1904c 9 = .ok (.areturn, 1) := by decide +kernel
theorem dJ7_copyOf_6403c_0 : decode cJ7_copyOf_6403c 0 = .ok (.aload_n 2, 1) := by decide +kernel
theorem dJ7_copyOf_6403c_1 : decode cJ7_copyOf_6403c 1 = .ok (.ldc 110, 2) := by decide +kernel
theorem dJ7_copyOf_6403c_3 : decode cJ7_copyOf_6403c 3 = .ok (.if_acmp .ne 10, 3) := by decide +kernel
theorem dJ7_copyOf_6403c_6 : decode cJ7_copyOf_6403c 6 = .ok (.iload_n 1, 1) := by decide +kernel
theorem dJ7_copyOf_6403c_7 : decode cJ7_copyOf_6403c 7 = .ok (.anewarray 2, 3) := by decide +kernel
theorem dJ7_copyOf_6403c_10 : decode cJ7_copyOf_6403c 10 = .ok (.goto 14, 3) := by decide +kernel
theorem dJ7_copyOf_6403c_13 : decode cJ7_copyOf_6403c 13 = .ok (.aload_n 2, 1) := by decide +kernel
theorem dJ7_copyOf_6403c_14 : decode cJ7_copyOf_6403c 14 = .ok (.invokevirtual 90, 3) := by decide +kernel
theorem dJ7_copyOf_6403c_17 : decode cJ7_copyOf_6403c 17 = .ok (.iload_n 1, 1) := by decide +kernel
theorem dJ7_copyOf_6403c_18 : decode cJ7_copyOf_6403c 18 = .ok (.invokestatic 95, 3) := by decide +kernel
theorem dJ7_copyOf_6403c_21 : decode cJ7_copyOf_6403c 21 = .ok (.checkcast 110, 3) := by decide +kernel
theorem dJ7_copyOf_6403c_24 : decode cJ7_copyOf_6403c 24 = .ok (.astore_n 3, 1) := by decide +kernel
theorem dJ7_copyOf_6403c_25 : decode cJ7_copyOf_6403c 25 = .ok (.aload_n 0, 1) := by decide +kernel
theorem dJ7_copyOf_6403c_26 : decode cJ7_copyOf_6403c 26 = .ok (.iconst 0, 1) := by decide +kernel
theorem dJ7_copyOf_6403c_27 : decode cJ7_copyOf_6403c 27 = .ok (.aload_n 3, 1) := by decide +kernel
theorem dJ7_copyOf_6403c_28 : decode cJ7_copyOf_6403c 28 = .ok (.iconst 0, 1) := by decide +kernel
theorem dJ7_copyOf_6403c_29 : decode cJ7_copyOf_6403c 29 = .ok (.aload_n 0, 1) := by decide +kernel
theorem dJ7_copyOf_6403c_30 : decode cJ7_copyOf_6403c 30 = .ok (.arraylength, 1) := by decide +kernel
theorem dJ7_copyOf_6403c_31 : decode cJ7_copyOf_6403c 31 = .ok (.iload_n 1, 1) := by decide +kernel
theorem dJ7_copyOf_6403c_32 : decode cJ7_copyOf_6403c 32 = .ok (.invokestatic 304, 3) := by decide +kernel
theorem dJ7_copyOf_6403c_35 : decode cJ7_copyOf_6403c 35 = .ok (.invokestatic 150, 3) := by decide +kernel
theorem dJ7_copyOf_6403c_38 : decode cJ7_copyOf_6403c 38 = .ok (.aload_n 3, 1) := by decide +kernel
theorem dJ7_copyOf_6403c_39 : decode cJ7_copyOf_6403c 39 = .ok (.areturn, 1) := by decide +kernel
set_option maxRecDepth 20000 in
theorem ggJ15_checkIndex_7cf53_J3_checkIndex_8e157 : GoodIn wsJ15_checkIndex_7cf53 wsJ3_checkIndex_8e157 := goodIn_r _ [4] (by decide +kernel) (by decide +kernel)
set_option maxRecDepth 20000 in
theorem gJ15_checkIndex_7cf53_J3_checkIndex_8e157 : GoodIn wsJ15_checkIndex_7cf53 (va_wsS RJ15 105 yJ3_checkIndex_8e157 wsJ3_checkIndex_8e157) := goodIn_app (goodIn_of _ (by decide +kernel)) ggJ15_checkIndex_7cf53_J3_checkIndex_8e157
theorem dJ15_checkIndex_7cf53_0 : decode cJ15_checkIndex_7cf53 0 = .ok (.iload_n 0, 1) := by decide +kernel
theorem dJ15_checkIndex_7cf53_1 : decode cJ15_checkIndex_7cf53 1 = .ok (.iload_n 1, 1) := by decide +kernel
theorem dJ15_checkIndex_7cf53_2 : decode cJ15_checkIndex_7cf53 2 = .ok (.aconst_null, 1) := by decide +kernel
theorem dJ15_checkIndex_7cf53_3 : decode cJ15_checkIndex_7cf53 3 = .ok (.invokestatic 105, 3) := by decide +kernel
theorem dJ15_checkIndex_7cf53_6 : decode cJ15_checkIndex_7cf53 6 = .ok (.ireturn, 1) := by decide +kernel
set_option maxRecDepth 20000 in
theorem ggJ8_newLength_cabcc_J8_hugeLength_7cf53 : GoodIn wsJ8_newLength_cabcc wsJ8_hugeLength_7cf53 := goodIn_r _ [9, 5] (by decide +kernel) (by decide +kernel)
set_option maxRecDepth 20000 in
theorem gJ8_newLength_cabcc_J8_hugeLength_7cf53 : GoodIn wsJ8_newLength_cabcc (va_wsS RJ8 201 yJ8_hugeLength_7cf53 wsJ8_hugeLength_7cf53) := goodIn_app (goodIn_of _ (by decide +kernel)) ggJ8_newLength_cabcc_J8_hugeLength_7cf53
theorem dJ8_newLength_cabcc_0 : decode cJ8_newLength_cabcc 0 = .ok (.iload_n 0, 1) := by decide +kernel
theorem dJ8_newLength_cabcc_1 : decode cJ8_newLength_cabcc 1 = .ok (.iload_n 1, 1) := by decide +kernel
theorem dJ8_newLength_cabcc_2 : decode cJ8_newLength_cabcc 2 = .ok (.iload_n 2, 1) := by decide +kernel
theorem dJ8_newLength_cabcc_3 : decode cJ8_newLength_cabcc 3 = .ok (.invokestatic 194, 3) := by decide +kernel
theorem dJ8_newLength_cabcc_6 : decode cJ8_newLength_cabcc 6 = .ok (.iadd, 1) := by decide +kernel
theorem dJ8_newLength_cabcc_7 : decode cJ8_newLength_cabcc 7 = .ok (.istore_n 3, 1) := by decide +kernel
theorem dJ8_newLength_cabcc_8 : decode cJ8_newLength_cabcc 8 = .ok (.iconst 0, 1) := by decide +kernel
theorem dJ8_newLength_cabcc_9 : decode cJ8_newLength_cabcc 9 = .ok (.iload_n 3, 1) := by decide +kernel
theorem dJ8_newLength_cabcc_10 : decode cJ8_newLength_cabcc 10 = .ok (.if_icmp .ge 11, 3) := by decide +kernel
theorem dJ8_newLength_cabcc_13 : decode cJ8_newLength_cabcc 13 = .ok (.iload_n 3, 1) := by decide +kernel
theorem dJ8_newLength_cabcc_14 : decode cJ8_newLength_cabcc 14 = .ok (.ldc 200, 2) := by decide +kernel
theorem dJ8_newLength_cabcc_16 : decode cJ8_newLength_cabcc 16 = .ok (.if_icmp .gt 5, 3) := by decide +kernel
theorem dJ8_newLength_cabcc_19 : decode cJ8_newLength_cabcc 19 = .ok (.iload_n 3, 1) := by decide +kernel
theorem dJ8_newLength_cabcc_20 : decode cJ8_newLength_cabcc 20 = .ok (.ireturn, 1) := by decide +kernel
theorem dJ8_newLength_cabcc_21 : decode cJ8_newLength_cabcc 21 = .ok (.iload_n 0, 1) := by decide +kernel
theorem dJ8_newLength_cabcc_22 : decode cJ8_newLength_cabcc 22 = .ok (.iload_n 1, 1) := by decide +kernel
theorem dJ8_newLength_cabcc_23 : decode cJ8_newLength_cabcc 23 = .ok (.invokestatic 201, 3) := by decide +kernel
theorem dJ8_newLength_cabcc_26 : decode cJ8_newLength_cabcc 26 = .ok (.ireturn, 1) := by decide +kernel
theorem dJ8_hugeLength_7cf53_0 : decode cJ8_hugeLength_7cf53 0 = .ok (.iload_n 0, 1) := by decide +kernel
theorem dJ8_hugeLength_7cf53_1 : decode cJ8_hugeLength_7cf53 1 = .ok (.iload_n 1, 1) := by decide +kernel
theorem dJ8_hugeLength_7cf53_2 : decode cJ8_hugeLength_7cf53 2 = .ok (.iadd, 1) := by decide +kernel
theorem dJ8_hugeLength_7cf53_3 : decode cJ8_hugeLength_7cf53 3 = .ok (.istore_n 2, 1) := by decide +kernel
theorem dJ8_hugeLength_7cf53_4 : decode cJ8_hugeLength_7cf53 4 = .ok (.iload_n 2, 1) := by decide +kernel
theorem dJ8_hugeLength_7cf53_5 : decode cJ8_hugeLength_7cf53 5 = .ok (.ifCond .ge 44, 3) := by decide +kernel
theorem dJ8_hugeLength_7cf53_8 : decode cJ8_hugeLength_7cf53 8 = .ok (.new 204, 3) := by decide +kernel
theorem dJ8_hugeLength_7cf53_11 : decode cJ8_hugeLength_7cf53 11 = .ok (.dup, 1) := by decide +kernel
theorem dJ8_hugeLength_7cf53_12 : decode cJ8_hugeLength_7cf53 12 = .ok (.new 89, 3) := by decide +kernel
theorem dJ8_hugeLength_7cf53_15 : decode cJ8_hugeLength_7cf53 15 = .ok (.dup, 1) := by decide +kernel
theorem dJ8_hugeLength_7cf53_16 : decode cJ8_hugeLength_7cf53 16 = .ok (.invokespecial 91, 3) := by decide +kernel
theorem dJ8_hugeLength_7cf53_19 : decode cJ8_hugeLength_7cf53 19 = .ok (.ldc 206, 2) := by decide +kernel
theorem dJ8_hugeLength_7cf53_21 : decode cJ8_hugeLength_7cf53 21 = .ok (.invokevirtual 94, 3) := by decide +kernel
theorem dJ8_hugeLength_7cf53_24 : decode cJ8_hugeLength_7cf53 24 = .ok (.iload_n 0, 1) := by decide +kernel
theorem dJ8_hugeLength_7cf53_25 : decode cJ8_hugeLength_7cf53 25 = .ok (.invokevirtual 98, 3) := by decide +kernel
theorem dJ8_hugeLength_7cf53_28 : decode cJ8_hugeLength_7cf53 28 = .ok (.ldc 208, 2) := by decide +kernel
theorem dJ8_hugeLength_7cf53_30 : decode cJ8_hugeLength_7cf53 30 = .ok (.invokevirtual 94, 3) := by decide +kernel
theorem dJ8_hugeLength_7cf53_33 : decode cJ8_hugeLength_7cf53 33 = .ok (.iload_n 1, 1) := by decide +kernel
theorem dJ8_hugeLength_7cf53_34 : decode cJ8_hugeLength_7cf53 34 = .ok (.invokevirtual 98, 3) := by decide +kernel
theorem dJ8_hugeLength_7cf53_37 : decode cJ8_hugeLength_7cf53 37 = .ok (.ldc 210, 2) := by decide +kernel
theorem dJ8_hugeLength_7cf53_39 : decode cJ8_hugeLength_7cf53 39 = .ok (.invokevirtual 94, 3) := by decide +kernel
theorem dJ8_hugeLength_7cf53_42 : decode cJ8_hugeLength_7cf53 42 = .ok (.invokevirtual 101, 3) := by decide +kernel
theorem dJ8_hugeLength_7cf53_45 : decode cJ8_hugeLength_7cf53 45 = .ok (.invokespecial 212, 3) := by decide +kernel
theorem dJ8_hugeLength_7cf53_48 : decode cJ8_hugeLength_7cf53 48 = .ok (.athrow, 1) := by decide +kernel
theorem dJ8_hugeLength_7cf53_49 : decode cJ8_hugeLength_7cf53 49 = .ok (.iload_n 2, 1) := by decide +kernel
theorem dJ8_hugeLength_7cf53_50 : decode cJ8_hugeLength_7cf53 50 = .ok (.ldc 200, 2) := by decide +kernel
theorem dJ8_hugeLength_7cf53_52 : decode cJ8_hugeLength_7cf53 52 = .ok (.if_icmp .gt 6, 3) := by decide +kernel
theorem dJ8_hugeLength_7cf53_55 : decode cJ8_hugeLength_7cf53 55 = .ok (.ldc 200, 2) := by decide +kernel
theorem dJ8_hugeLength_7cf53_57 : decode cJ8_hugeLength_7cf53 57 = .ok (.ireturn, 1) := by decide +kernel
theorem dJ8_hugeLength_7cf53_58 : decode cJ8_hugeLength_7cf53 58 = .ok (.iload_n 2, 1) := by decide +kernel
theorem dJ8_hugeLength_7cf53_59 : decode cJ8_hugeLength_7cf53 59 = .ok (.ireturn, 1) := by decide +kernel
theorem dJ3_checkIndex_8e157_0 : decode cJ3_checkIndex_8e157 0 = .ok (.iload_n 0, 1) := by decide +kernel
theorem dJ3_checkIndex_8e157_1 : decode cJ3_checkIndex_8e157 1 = .ok (.ifCond .lt 8, 3) := by decide +kernel
theorem dJ3_checkIndex_8e157_4 : decode cJ3_checkIndex_8e157 4 = .ok (.iload_n 0, 1) := by decide +kernel
theorem dJ3_checkIndex_8e157_5 : decode cJ3_checkIndex_8e157 5 = .ok (.iload_n 1, 1) := by decide +kernel
theorem dJ3_checkIndex_8e157_6 : decode cJ3_checkIndex_8e157 6 = .ok (.if_icmp .lt 10, 3) := by decide +kernel
theorem dJ3_checkIndex_8e157_9 : decode cJ3_checkIndex_8e157 9 = .ok (.aload_n 2, 1) := by decide +kernel
theorem dJ3_checkIndex_8e157_10 : decode cJ3_checkIndex_8e157 10 = .ok (.iload_n 0, 1) := by decide +kernel
theorem dJ3_checkIndex_8e157_11 : decode cJ3_checkIndex_8e157 11 = .ok (.iload_n 1, 1) := by decide +kernel
theorem dJ3_checkIndex_8e157_12 : decode cJ3_checkIndex_8e157 12 = .ok (.invokestatic 95, 3) := by decide +kernel
theorem dJ3_checkIndex_8e157_15 : decode cJ3_checkIndex_8e157 15 = .ok (.athrow, 1) := by decide +kernel
theorem dJ3_checkIndex_8e157_16 : decode cJ3_checkIndex_8e157 16 = .ok (.iload_n 0, 1) := by decide +kernel
theorem dJ3_checkIndex_8e157_17 : decode cJ3_checkIndex_8e157 17 = .ok (.ireturn, 1) := by decide +kernel
