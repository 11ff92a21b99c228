theorem dX0_init_0 : decode cX0_init 0 = .ok (.aload_n 0, 1) := by decide +kernel
theorem dX0_init_1 : decode cX0_init 1 = .ok (.invokespecial 3, 3) := by decide +kernel
theorem dX0_init_4 : decode cX0_init 4 = .ok (.aload_n 0, 1) := by decide +kernel
theorem dX0_init_5 : decode cX0_init 5 = .ok (.bipush (-9), 2) := by decide +kernel
theorem dX0_init_7 : decode cX0_init 7 = .ok (.putfield 9, 3) := by decide +kernel
theorem dX0_init_10 : decode cX0_init 10 = .ok (.aload_n 0, 1) := by decide +kernel
theorem dX0_init_11 : decode cX0_init 11 = .ok (.iconst 0, 1) := by decide +kernel
theorem dX0_init_12 : decode cX0_init 12 = .ok (.putfield 15, 3) := by decide +kernel
theorem dX0_init_15 : decode cX0_init 15 = .ok (.aload_n 0, 1) := by decide +kernel
theorem dX0_init_16 : decode cX0_init 16 = .ok (.bipush 8, 2) := by decide +kernel
theorem dX0_init_18 : decode cX0_init 18 = .ok (.newarray .int, 2) := by decide +kernel
theorem dX0_init_20 : decode cX0_init 20 = .ok (.putfield 20, 3) := by decide +kernel
theorem dX0_init_23 : decode cX0_init 23 = .ok (.aload_n 0, 1) := by decide +kernel
theorem dX0_init_24 : decode cX0_init 24 = .ok (.bipush 8, 2) := by decide +kernel
theorem dX0_init_26 : decode cX0_init 26 = .ok (.newarray .int, 2) := by decide +kernel
theorem dX0_init_28 : decode cX0_init 28 = .ok (.putfield 24, 3) := by decide +kernel
theorem dX0_init_31 : decode cX0_init 31 = .ok (.aload_n 0, 1) := by decide +kernel
theorem dX0_init_32 : decode cX0_init 32 = .ok (.aload_n 1, 1) := by decide +kernel
theorem dX0_init_33 : decode cX0_init 33 = .ok (.putfield 27, 3) := by decide +kernel
theorem dX0_init_36 : decode cX0_init 36 = .ok (.aload_n 0, 1) := by decide +kernel
theorem dX0_init_37 : decode cX0_init 37 = .ok (.aload_n 2, 1) := by decide +kernel
theorem dX0_init_38 : decode cX0_init 38 = .ok (.putfield 31, 3) := by decide +kernel
theorem dX0_init_41 : decode cX0_init 41 = .ok (.aload_n 0, 1) := by decide +kernel
theorem dX0_init_42 : decode cX0_init 42 = .ok (.aload_n 3, 1) := by decide +kernel
theorem dX0_init_43 : decode cX0_init 43 = .ok (.putfield 35, 3) := by decide +kernel
theorem dX0_init_46 : decode cX0_init 46 = .ok (.return_, 1) := by decide +kernel
set_option maxRecDepth 20000 in
theorem ggX0_runWithout_X1_run : GoodIn wsX0_runWithout wsX1_run := goodIn_r _ [10, 11, 12, 13, 14, 15, 16, 17, 18, 19, 9, 20, 21, 22, 23, 24, 25, 26, 27, 28, 29, 30, 31, 32, 33, 34, 35, 36, 37, 38, 39, 40, 41, 42, 43, 44, 45, 46, 47, 48, 49, 50, 51, 52, 53, 54, 55, 56, 57, 58, 59, 60, 61, 62, 63, 64, 65, 85, 86, 87, 88, 89, 90, 91, 92, 80, 81, 82, 83, 84, 93, 94, 95, 96, 73, 74, 75, 76, 77, 78, 79] (by decide +kernel) (by decide +kernel)
set_option maxRecDepth 20000 in
theorem gX0_runWithout_X1_run : GoodIn wsX0_runWithout (wsV RX0 47 RX1 yX1_run wsX1_run) := goodIn_app (goodIn_of _ (by decide +kernel)) ggX0_runWithout_X1_run
theorem dX0_runWithout_0 : decode cX0_runWithout 0 = .ok (.aload_n 0, 1) := by decide +kernel
theorem dX0_runWithout_1 : decode cX0_runWithout 1 = .ok (.getfield 35, 3) := by decide +kernel
theorem dX0_runWithout_4 : decode cX0_runWithout 4 = .ok (.aload_n 0, 1) := by decide +kernel
theorem dX0_runWithout_5 : decode cX0_runWithout 5 = .ok (.getfield 27, 3) := by decide +kernel
theorem dX0_runWithout_8 : decode cX0_runWithout 8 = .ok (.getfield 39, 3) := by decide +kernel
theorem dX0_runWithout_11 : decode cX0_runWithout 11 = .ok (.sipush 1023, 3) := by decide +kernel
theorem dX0_runWithout_14 : decode cX0_runWithout 14 = .ok (.iconst 1, 1) := by decide +kernel
theorem dX0_runWithout_15 : decode cX0_runWithout 15 = .ok (.iload_n 1, 1) := by decide +kernel
theorem dX0_runWithout_16 : decode cX0_runWithout 16 = .ok (.ishl, 1) := by decide +kernel
theorem dX0_runWithout_17 : decode cX0_runWithout 17 = .ok (.iconst (-1), 1) := by decide +kernel
theorem dX0_runWithout_18 : decode cX0_runWithout 18 = .ok (.ixor, 1) := by decide +kernel
theorem dX0_runWithout_19 : decode cX0_runWithout 19 = .ok (.iand, 1) := by decide +kernel
theorem dX0_runWithout_20 : decode cX0_runWithout 20 = .ok (.aload_n 0, 1) := by decide +kernel
theorem dX0_runWithout_21 : decode cX0_runWithout 21 = .ok (.getfield 31, 3) := by decide +kernel
theorem dX0_runWithout_24 : decode cX0_runWithout 24 = .ok (.getfield 44, 3) := by decide +kernel
theorem dX0_runWithout_27 : decode cX0_runWithout 27 = .ok (.bipush 12, 2) := by decide +kernel
theorem dX0_runWithout_29 : decode cX0_runWithout 29 = .ok (.invokevirtual 47, 3) := by decide +kernel
theorem dX0_runWithout_32 : decode cX0_runWithout 32 = .ok (.return_, 1) := by decide +kernel
set_option maxRecDepth 20000 in
theorem ggX0_gainBy_X1_runUpTo : GoodIn wsX0_gainBy wsX1_runUpTo := goodIn_r _ [6, 7, 8, 9, 10, 11, 12, 13, 5, 14, 15, 16, 17, 18, 19, 20, 21, 22, 23, 24, 25, 26, 27, 28, 29, 30, 31, 32, 33, 34, 35, 36, 37, 38, 39, 40, 41, 42, 43, 44, 45, 46, 47, 48, 49, 50, 51, 52, 53, 54, 55, 56, 57, 58, 59, 60, 61, 62, 63, 64, 65, 66, 67, 104, 105, 106, 107, 108, 109, 110, 111, 112, 113, 114, 115, 116, 117, 118, 119, 120, 121, 122, 123, 124, 125, 126, 127] (by decide +kernel) (by decide +kernel)
set_option maxRecDepth 20000 in
theorem gX0_gainBy_X1_runUpTo : GoodIn wsX0_gainBy (wsV RX0 53 RX1 yX1_runUpTo wsX1_runUpTo) := goodIn_app (goodIn_of _ (by decide +kernel)) ggX0_gainBy_X1_runUpTo
set_option maxRecDepth 20000 in
theorem ggX0_gainBy_X1_yieldOf : GoodIn wsX0_gainBy wsX1_yieldOf := goodIn_r _ [71, 7, 72, 73, 74, 75, 47, 76, 77, 78, 79, 80, 5, 81, 82, 28, 83, 15, 16, 17, 18, 29, 84, 85, 86, 104, 105, 106, 107, 108, 109, 110, 111, 112, 113, 114, 115, 116, 117, 118] (by decide +kernel) (by decide +kernel)
set_option maxRecDepth 20000 in
theorem gX0_gainBy_X1_yieldOf : GoodIn wsX0_gainBy (wsV RX0 57 RX1 yX1_yieldOf wsX1_yieldOf) := goodIn_app (goodIn_of _ (by decide +kernel)) ggX0_gainBy_X1_yieldOf
set_option maxRecDepth 20000 in
theorem ggX0_gainBy_X0_runWithout : GoodIn wsX0_gainBy wsX0_runWithout := goodIn_r _ [91, 1, 92, 93, 94, 95, 96, 12, 13, 5, 14, 15, 16, 17, 18, 9, 19, 20, 21, 22, 23, 24, 25, 26, 27, 28, 29, 30, 31, 32, 33, 34, 35, 7, 36, 37, 38, 39, 40, 41, 42, 43, 44, 45, 46, 47, 48, 49, 50, 51, 52, 53, 54, 55, 56, 57, 58, 59, 60, 61, 62, 63, 64, 65, 66, 67, 97, 98, 99, 100, 101, 102, 103, 112, 113, 114, 115, 116, 117, 118, 119, 120, 121, 122, 123, 104, 105, 106, 107, 108, 109, 110, 111, 124, 125, 126, 127] (by decide +kernel) (by decide +kernel)
set_option maxRecDepth 20000 in
theorem gX0_gainBy_X0_runWithout : GoodIn wsX0_gainBy (wsV RX0 61 RX0 yX0_runWithout wsX0_runWithout) := goodIn_app (goodIn_of _ (by decide +kernel)) ggX0_gainBy_X0_runWithout
theorem dX0_gainBy_0 : decode cX0_gainBy 0 = .ok (.aload_n 0, 1) := by decide +kernel
theorem dX0_gainBy_1 : decode cX0_gainBy 1 = .ok (.getfield 35, 3) := by decide +kernel
theorem dX0_gainBy_4 : decode cX0_gainBy 4 = .ok (.bipush 12, 2) := by decide +kernel
theorem dX0_gainBy_6 : decode cX0_gainBy 6 = .ok (.invokevirtual 53, 3) := by decide +kernel
theorem dX0_gainBy_9 : decode cX0_gainBy 9 = .ok (.aload_n 0, 1) := by decide +kernel
theorem dX0_gainBy_10 : decode cX0_gainBy 10 = .ok (.getfield 35, 3) := by decide +kernel
theorem dX0_gainBy_13 : decode cX0_gainBy 13 = .ok (.iload_n 2, 1) := by decide +kernel
theorem dX0_gainBy_14 : decode cX0_gainBy 14 = .ok (.invokevirtual 57, 3) := by decide +kernel
theorem dX0_gainBy_17 : decode cX0_gainBy 17 = .ok (.istore_n 3, 1) := by decide +kernel
theorem dX0_gainBy_18 : decode cX0_gainBy 18 = .ok (.aload_n 0, 1) := by decide +kernel
theorem dX0_gainBy_19 : decode cX0_gainBy 19 = .ok (.iload_n 1, 1) := by decide +kernel
theorem dX0_gainBy_20 : decode cX0_gainBy 20 = .ok (.invokevirtual 61, 3) := by decide +kernel
theorem dX0_gainBy_23 : decode cX0_gainBy 23 = .ok (.iload_n 3, 1) := by decide +kernel
theorem dX0_gainBy_24 : decode cX0_gainBy 24 = .ok (.aload_n 0, 1) := by decide +kernel
theorem dX0_gainBy_25 : decode cX0_gainBy 25 = .ok (.getfield 35, 3) := by decide +kernel
theorem dX0_gainBy_28 : decode cX0_gainBy 28 = .ok (.iload_n 2, 1) := by decide +kernel
theorem dX0_gainBy_29 : decode cX0_gainBy 29 = .ok (.invokevirtual 57, 3) := by decide +kernel
theorem dX0_gainBy_32 : decode cX0_gainBy 32 = .ok (.isub, 1) := by decide +kernel
theorem dX0_gainBy_33 : decode cX0_gainBy 33 = .ok (.ireturn, 1) := by decide +kernel
set_option maxRecDepth 20000 in
theorem ggX0_idleSet_X1_runUpTo : GoodIn wsX0_idleSet wsX1_runUpTo := goodIn_r _ [14, 15, 16, 17, 18, 19, 20, 21, 13, 22, 23, 24, 25, 26, 27, 28, 29, 30, 31, 32, 33, 34, 35, 36, 37, 38, 39, 40, 41, 42, 43, 44, 45, 46, 47, 48, 49, 50, 51, 52, 53, 54, 55, 56, 57, 58, 59, 60, 61, 62, 63, 64, 65, 66, 67, 68, 69, 70, 71, 72, 73, 74, 75, 101, 102, 103, 104, 105, 106, 107, 108, 94, 95, 96, 97, 98, 99, 100, 109, 110, 111, 112, 113, 114, 115, 116, 117] (by decide +kernel) (by decide +kernel)
set_option maxRecDepth 20000 in
theorem gX0_idleSet_X1_runUpTo : GoodIn wsX0_idleSet (wsV RX0 53 RX1 yX1_runUpTo wsX1_runUpTo) := goodIn_app (goodIn_of _ (by decide +kernel)) ggX0_idleSet_X1_runUpTo
set_option maxRecDepth 20000 in
theorem ggX0_idleSet_X0_runWithout : GoodIn wsX0_idleSet wsX0_runWithout := goodIn_r _ [80, 1, 2, 81, 8, 9, 82, 20, 21, 13, 22, 23, 24, 25, 26, 17, 27, 28, 29, 30, 31, 32, 33, 34, 35, 36, 37, 38, 39, 40, 41, 42, 43, 15, 44, 45, 46, 47, 48, 49, 50, 51, 52, 53, 54, 55, 56, 57, 58, 59, 60, 61, 62, 63, 64, 65, 66, 67, 68, 69, 70, 71, 72, 73, 74, 75, 87, 88, 89, 90, 91, 92, 93, 94, 95, 96, 97, 98, 99, 100, 109, 110, 111, 112, 113, 101, 102, 103, 104, 105, 106, 107, 108, 114, 115, 116, 117] (by decide +kernel) (by decide +kernel)
set_option maxRecDepth 20000 in
theorem gX0_idleSet_X0_runWithout : GoodIn wsX0_idleSet (wsV RX0 61 RX0 yX0_runWithout wsX0_runWithout) := goodIn_app (goodIn_of _ (by decide +kernel)) ggX0_idleSet_X0_runWithout
set_option maxRecDepth 20000 in
theorem ggX0_idleSet_X0_isAsBase : GoodIn wsX0_idleSet wsX0_isAsBase := goodIn_r _ [86, 2, 3, 1, 5, 4, 7, 6, 87, 88, 89, 90, 91, 92, 93, 94, 95, 96, 97, 98, 99, 100, 101, 102, 103, 104, 105, 106, 107, 108] (by decide +kernel) (by decide +kernel)
set_option maxRecDepth 20000 in
theorem gX0_idleSet_X0_isAsBase : GoodIn wsX0_idleSet (wsV RX0 71 RX0 yX0_isAsBase wsX0_isAsBase) := goodIn_app (goodIn_of _ (by decide +kernel)) ggX0_idleSet_X0_isAsBase
theorem dX0_idleSet_0 : decode cX0_idleSet 0 = .ok (.aload_n 0, 1) := by decide +kernel
theorem dX0_idleSet_1 : decode cX0_idleSet 1 = .ok (.getfield 35, 3) := by decide +kernel
theorem dX0_idleSet_4 : decode cX0_idleSet 4 = .ok (.bipush 12, 2) := by decide +kernel
theorem dX0_idleSet_6 : decode cX0_idleSet 6 = .ok (.invokevirtual 53, 3) := by decide +kernel
theorem dX0_idleSet_9 : decode cX0_idleSet 9 = .ok (.iconst 0, 1) := by decide +kernel
theorem dX0_idleSet_10 : decode cX0_idleSet 10 = .ok (.istore_n 1, 1) := by decide +kernel
theorem dX0_idleSet_11 : decode cX0_idleSet 11 = .ok (.iload_n 1, 1) := by decide +kernel
theorem dX0_idleSet_12 : decode cX0_idleSet 12 = .ok (.aload_n 0, 1) := by decide +kernel
theorem dX0_idleSet_13 : decode cX0_idleSet 13 = .ok (.getfield 27, 3) := by decide +kernel
theorem dX0_idleSet_16 : decode cX0_idleSet 16 = .ok (.getfield 64, 3) := by decide +kernel
theorem dX0_idleSet_19 : decode cX0_idleSet 19 = .ok (.if_icmp .ge 39, 3) := by decide +kernel
theorem dX0_idleSet_22 : decode cX0_idleSet 22 = .ok (.aload_n 0, 1) := by decide +kernel
theorem dX0_idleSet_23 : decode cX0_idleSet 23 = .ok (.getfield 20, 3) := by decide +kernel
theorem dX0_idleSet_26 : decode cX0_idleSet 26 = .ok (.iload_n 1, 1) := by decide +kernel
theorem dX0_idleSet_27 : decode cX0_idleSet 27 = .ok (.aload_n 0, 1) := by decide +kernel
theorem dX0_idleSet_28 : decode cX0_idleSet 28 = .ok (.getfield 35, 3) := by decide +kernel
theorem dX0_idleSet_31 : decode cX0_idleSet 31 = .ok (.getfield 65, 3) := by decide +kernel
theorem dX0_idleSet_34 : decode cX0_idleSet 34 = .ok (.iload_n 1, 1) := by decide +kernel
theorem dX0_idleSet_35 : decode cX0_idleSet 35 = .ok (.iaload, 1) := by decide +kernel
theorem dX0_idleSet_36 : decode cX0_idleSet 36 = .ok (.iastore, 1) := by decide +kernel
theorem dX0_idleSet_37 : decode cX0_idleSet 37 = .ok (.aload_n 0, 1) := by decide +kernel
theorem dX0_idleSet_38 : decode cX0_idleSet 38 = .ok (.getfield 24, 3) := by decide +kernel
theorem dX0_idleSet_41 : decode cX0_idleSet 41 = .ok (.iload_n 1, 1) := by decide +kernel
theorem dX0_idleSet_42 : decode cX0_idleSet 42 = .ok (.aload_n 0, 1) := by decide +kernel
theorem dX0_idleSet_43 : decode cX0_idleSet 43 = .ok (.getfield 35, 3) := by decide +kernel
theorem dX0_idleSet_46 : decode cX0_idleSet 46 = .ok (.getfield 68, 3) := by decide +kernel
theorem dX0_idleSet_49 : decode cX0_idleSet 49 = .ok (.iload_n 1, 1) := by decide +kernel
theorem dX0_idleSet_50 : decode cX0_idleSet 50 = .ok (.iaload, 1) := by decide +kernel
theorem dX0_idleSet_51 : decode cX0_idleSet 51 = .ok (.iastore, 1) := by decide +kernel
theorem dX0_idleSet_52 : decode cX0_idleSet 52 = .ok (.iinc 1 1, 3) := by decide +kernel
theorem dX0_idleSet_55 : decode cX0_idleSet 55 = .ok (.goto (-44), 3) := by decide +kernel
theorem dX0_idleSet_58 : decode cX0_idleSet 58 = .ok (.iconst 0, 1) := by decide +kernel
theorem dX0_idleSet_59 : decode cX0_idleSet 59 = .ok (.istore_n 1, 1) := by decide +kernel
theorem dX0_idleSet_60 : decode cX0_idleSet 60 = .ok (.iconst 0, 1) := by decide +kernel
theorem dX0_idleSet_61 : decode cX0_idleSet 61 = .ok (.istore_n 2, 1) := by decide +kernel
theorem dX0_idleSet_62 : decode cX0_idleSet 62 = .ok (.iload_n 2, 1) := by decide +kernel
theorem dX0_idleSet_63 : decode cX0_idleSet 63 = .ok (.aload_n 0, 1) := by decide +kernel
theorem dX0_idleSet_64 : decode cX0_idleSet 64 = .ok (.getfield 31, 3) := by decide +kernel
theorem dX0_idleSet_67 : decode cX0_idleSet 67 = .ok (.getfield 44, 3) := by decide +kernel
theorem dX0_idleSet_70 : decode cX0_idleSet 70 = .ok (.if_icmp .ge 27, 3) := by decide +kernel
theorem dX0_idleSet_73 : decode cX0_idleSet 73 = .ok (.aload_n 0, 1) := by decide +kernel
theorem dX0_idleSet_74 : decode cX0_idleSet 74 = .ok (.iload_n 2, 1) := by decide +kernel
theorem dX0_idleSet_75 : decode cX0_idleSet 75 = .ok (.invokevirtual 61, 3) := by decide +kernel
theorem dX0_idleSet_78 : decode cX0_idleSet 78 = .ok (.aload_n 0, 1) := by decide +kernel
theorem dX0_idleSet_79 : decode cX0_idleSet 79 = .ok (.invokevirtual 71, 3) := by decide +kernel
theorem dX0_idleSet_82 : decode cX0_idleSet 82 = .ok (.ifCond .eq 9, 3) := by decide +kernel
theorem dX0_idleSet_85 : decode cX0_idleSet 85 = .ok (.iload_n 1, 1) := by decide +kernel
theorem dX0_idleSet_86 : decode cX0_idleSet 86 = .ok (.iconst 1, 1) := by decide +kernel
theorem dX0_idleSet_87 : decode cX0_idleSet 87 = .ok (.iload_n 2, 1) := by decide +kernel
theorem dX0_idleSet_88 : decode cX0_idleSet 88 = .ok (.ishl, 1) := by decide +kernel
theorem dX0_idleSet_89 : decode cX0_idleSet 89 = .ok (.ior, 1) := by decide +kernel
theorem dX0_idleSet_90 : decode cX0_idleSet 90 = .ok (.istore_n 1, 1) := by decide +kernel
theorem dX0_idleSet_91 : decode cX0_idleSet 91 = .ok (.iinc 2 1, 3) := by decide +kernel
theorem dX0_idleSet_94 : decode cX0_idleSet 94 = .ok (.goto (-32), 3) := by decide +kernel
theorem dX0_idleSet_97 : decode cX0_idleSet 97 = .ok (.iload_n 1, 1) := by decide +kernel
theorem dX0_idleSet_98 : decode cX0_idleSet 98 = .ok (.ireturn, 1) := by decide +kernel
theorem dX0_isAsBase_0 : decode cX0_isAsBase 0 = .ok (.iconst 0, 1) := by decide +kernel
theorem dX0_isAsBase_1 : decode cX0_isAsBase 1 = .ok (.istore_n 1, 1) := by decide +kernel
theorem dX0_isAsBase_2 : decode cX0_isAsBase 2 = .ok (.iload_n 1, 1) := by decide +kernel
theorem dX0_isAsBase_3 : decode cX0_isAsBase 3 = .ok (.aload_n 0, 1) := by decide +kernel
theorem dX0_isAsBase_4 : decode cX0_isAsBase 4 = .ok (.getfield 27, 3) := by decide +kernel
theorem dX0_isAsBase_7 : decode cX0_isAsBase 7 = .ok (.getfield 64, 3) := by decide +kernel
theorem dX0_isAsBase_10 : decode cX0_isAsBase 10 = .ok (.if_icmp .ge 47, 3) := by decide +kernel
theorem dX0_isAsBase_13 : decode cX0_isAsBase 13 = .ok (.aload_n 0, 1) := by decide +kernel
theorem dX0_isAsBase_14 : decode cX0_isAsBase 14 = .ok (.getfield 35, 3) := by decide +kernel
theorem dX0_isAsBase_17 : decode cX0_isAsBase 17 = .ok (.getfield 65, 3) := by decide +kernel
theorem dX0_isAsBase_20 : decode cX0_isAsBase 20 = .ok (.iload_n 1, 1) := by decide +kernel
theorem dX0_isAsBase_21 : decode cX0_isAsBase 21 = .ok (.iaload, 1) := by decide +kernel
theorem dX0_isAsBase_22 : decode cX0_isAsBase 22 = .ok (.aload_n 0, 1) := by decide +kernel
theorem dX0_isAsBase_23 : decode cX0_isAsBase 23 = .ok (.getfield 20, 3) := by decide +kernel
theorem dX0_isAsBase_26 : decode cX0_isAsBase 26 = .ok (.iload_n 1, 1) := by decide +kernel
theorem dX0_isAsBase_27 : decode cX0_isAsBase 27 = .ok (.iaload, 1) := by decide +kernel
theorem dX0_isAsBase_28 : decode cX0_isAsBase 28 = .ok (.if_icmp .ne 21, 3) := by decide +kernel
theorem dX0_isAsBase_31 : decode cX0_isAsBase 31 = .ok (.aload_n 0, 1) := by decide +kernel
theorem dX0_isAsBase_32 : decode cX0_isAsBase 32 = .ok (.getfield 35, 3) := by decide +kernel
theorem dX0_isAsBase_35 : decode cX0_isAsBase 35 = .ok (.getfield 68, 3) := by decide +kernel
theorem dX0_isAsBase_38 : decode cX0_isAsBase 38 = .ok (.iload_n 1, 1) := by decide +kernel
theorem dX0_isAsBase_39 : decode cX0_isAsBase 39 = .ok (.iaload, 1) := by decide +kernel
theorem dX0_isAsBase_40 : decode cX0_isAsBase 40 = .ok (.aload_n 0, 1) := by decide +kernel
theorem dX0_isAsBase_41 : decode cX0_isAsBase 41 = .ok (.getfield 24, 3) := by decide +kernel
theorem dX0_isAsBase_44 : decode cX0_isAsBase 44 = .ok (.iload_n 1, 1) := by decide +kernel
theorem dX0_isAsBase_45 : decode cX0_isAsBase 45 = .ok (.iaload, 1) := by decide +kernel
theorem dX0_isAsBase_46 : decode cX0_isAsBase 46 = .ok (.if_icmp .eq 5, 3) := by decide +kernel
theorem dX0_isAsBase_49 : decode cX0_isAsBase 49 = .ok (.iconst 0, 1) := by decide +kernel
theorem dX0_isAsBase_50 : decode cX0_isAsBase 50 = .ok (.ireturn, 1) := by decide +kernel
theorem dX0_isAsBase_51 : decode cX0_isAsBase 51 = .ok (.iinc 1 1, 3) := by decide +kernel
theorem dX0_isAsBase_54 : decode cX0_isAsBase 54 = .ok (.goto (-52), 3) := by decide +kernel
theorem dX0_isAsBase_57 : decode cX0_isAsBase 57 = .ok (.iconst 1, 1) := by decide +kernel
theorem dX0_isAsBase_58 : decode cX0_isAsBase 58 = .ok (.ireturn, 1) := by decide +kernel
set_option maxRecDepth 20000 in
theorem ggX0_breachSet_X3_isAllowed : GoodIn wsX0_breachSet wsX3_isAllowed := goodIn_r _ [9, 10, 23, 24, 25, 26, 27, 28, 29] (by decide +kernel) (by decide +kernel)
set_option maxRecDepth 20000 in
theorem gX0_breachSet_X3_isAllowed : GoodIn wsX0_breachSet (wsV RX0 78 RX3 yX3_isAllowed wsX3_isAllowed) := goodIn_app (goodIn_of _ (by decide +kernel)) ggX0_breachSet_X3_isAllowed
theorem dX0_breachSet_0 : decode cX0_breachSet 0 = .ok (.iconst 0, 1) := by decide +kernel
theorem dX0_breachSet_1 : decode cX0_breachSet 1 = .ok (.istore_n 1, 1) := by decide +kernel
theorem dX0_breachSet_2 : decode cX0_breachSet 2 = .ok (.iconst 0, 1) := by decide +kernel
theorem dX0_breachSet_3 : decode cX0_breachSet 3 = .ok (.istore_n 2, 1) := by decide +kernel
theorem dX0_breachSet_4 : decode cX0_breachSet 4 = .ok (.iload_n 2, 1) := by decide +kernel
theorem dX0_breachSet_5 : decode cX0_breachSet 5 = .ok (.aload_n 0, 1) := by decide +kernel
theorem dX0_breachSet_6 : decode cX0_breachSet 6 = .ok (.getfield 31, 3) := by decide +kernel
theorem dX0_breachSet_9 : decode cX0_breachSet 9 = .ok (.getfield 44, 3) := by decide +kernel
theorem dX0_breachSet_12 : decode cX0_breachSet 12 = .ok (.if_icmp .ge 34, 3) := by decide +kernel
theorem dX0_breachSet_15 : decode cX0_breachSet 15 = .ok (.aload_n 0, 1) := by decide +kernel
theorem dX0_breachSet_16 : decode cX0_breachSet 16 = .ok (.getfield 27, 3) := by decide +kernel
theorem dX0_breachSet_19 : decode cX0_breachSet 19 = .ok (.aload_n 0, 1) := by decide +kernel
theorem dX0_breachSet_20 : decode cX0_breachSet 20 = .ok (.getfield 31, 3) := by decide +kernel
theorem dX0_breachSet_23 : decode cX0_breachSet 23 = .ok (.getfield 75, 3) := by decide +kernel
theorem dX0_breachSet_26 : decode cX0_breachSet 26 = .ok (.iload_n 2, 1) := by decide +kernel
theorem dX0_breachSet_27 : decode cX0_breachSet 27 = .ok (.iaload, 1) := by decide +kernel
theorem dX0_breachSet_28 : decode cX0_breachSet 28 = .ok (.invokevirtual 78, 3) := by decide +kernel
theorem dX0_breachSet_31 : decode cX0_breachSet 31 = .ok (.ifCond .ne 9, 3) := by decide +kernel
theorem dX0_breachSet_34 : decode cX0_breachSet 34 = .ok (.iload_n 1, 1) := by decide +kernel
theorem dX0_breachSet_35 : decode cX0_breachSet 35 = .ok (.iconst 1, 1) := by decide +kernel
theorem dX0_breachSet_36 : decode cX0_breachSet 36 = .ok (.iload_n 2, 1) := by decide +kernel
theorem dX0_breachSet_37 : decode cX0_breachSet 37 = .ok (.ishl, 1) := by decide +kernel
theorem dX0_breachSet_38 : decode cX0_breachSet 38 = .ok (.ior, 1) := by decide +kernel
theorem dX0_breachSet_39 : decode cX0_breachSet 39 = .ok (.istore_n 1, 1) := by decide +kernel
theorem dX0_breachSet_40 : decode cX0_breachSet 40 = .ok (.iinc 2 1, 3) := by decide +kernel
theorem dX0_breachSet_43 : decode cX0_breachSet 43 = .ok (.goto (-39), 3) := by decide +kernel
theorem dX0_breachSet_46 : decode cX0_breachSet 46 = .ok (.iload_n 1, 1) := by decide +kernel
theorem dX0_breachSet_47 : decode cX0_breachSet 47 = .ok (.ireturn, 1) := by decide +kernel
theorem dX1_init_0 : decode cX1_init 0 = .ok (.aload_n 0, 1) := by decide +kernel
theorem dX1_init_1 : decode cX1_init 1 = .ok (.invokespecial 3, 3) := by decide +kernel
theorem dX1_init_4 : decode cX1_init 4 = .ok (.aload_n 0, 1) := by decide +kernel
theorem dX1_init_5 : decode cX1_init 5 = .ok (.bipush 6, 2) := by decide +kernel
theorem dX1_init_7 : decode cX1_init 7 = .ok (.newarray .int, 2) := by decide +kernel
theorem dX1_init_9 : decode cX1_init 9 = .ok (.putfield 11, 3) := by decide +kernel
theorem dX1_init_12 : decode cX1_init 12 = .ok (.aload_n 0, 1) := by decide +kernel
theorem dX1_init_13 : decode cX1_init 13 = .ok (.bipush 8, 2) := by decide +kernel
theorem dX1_init_15 : decode cX1_init 15 = .ok (.newarray .int, 2) := by decide +kernel
theorem dX1_init_17 : decode cX1_init 17 = .ok (.putfield 19, 3) := by decide +kernel
theorem dX1_init_20 : decode cX1_init 20 = .ok (.aload_n 0, 1) := by decide +kernel
theorem dX1_init_21 : decode cX1_init 21 = .ok (.bipush 8, 2) := by decide +kernel
theorem dX1_init_23 : decode cX1_init 23 = .ok (.newarray .int, 2) := by decide +kernel
theorem dX1_init_25 : decode cX1_init 25 = .ok (.putfield 22, 3) := by decide +kernel
theorem dX1_init_28 : decode cX1_init 28 = .ok (.aload_n 0, 1) := by decide +kernel
theorem dX1_init_29 : decode cX1_init 29 = .ok (.bipush 10, 2) := by decide +kernel
theorem dX1_init_31 : decode cX1_init 31 = .ok (.newarray .int, 2) := by decide +kernel
theorem dX1_init_33 : decode cX1_init 33 = .ok (.putfield 27, 3) := by decide +kernel
theorem dX1_init_36 : decode cX1_init 36 = .ok (.aload_n 0, 1) := by decide +kernel
theorem dX1_init_37 : decode cX1_init 37 = .ok (.bipush 10, 2) := by decide +kernel
theorem dX1_init_39 : decode cX1_init 39 = .ok (.newarray .int, 2) := by decide +kernel
theorem dX1_init_41 : decode cX1_init 41 = .ok (.putfield 30, 3) := by decide +kernel
theorem dX1_init_44 : decode cX1_init 44 = .ok (.aload_n 0, 1) := by decide +kernel
theorem dX1_init_45 : decode cX1_init 45 = .ok (.aload_n 1, 1) := by decide +kernel
theorem dX1_init_46 : decode cX1_init 46 = .ok (.putfield 33, 3) := by decide +kernel
theorem dX1_init_49 : decode cX1_init 49 = .ok (.aload_n 0, 1) := by decide +kernel
theorem dX1_init_50 : decode cX1_init 50 = .ok (.aload_n 2, 1) := by decide +kernel
theorem dX1_init_51 : decode cX1_init 51 = .ok (.putfield 37, 3) := by decide +kernel
theorem dX1_init_54 : decode cX1_init 54 = .ok (.aload_n 0, 1) := by decide +kernel
theorem dX1_init_55 : decode cX1_init 55 = .ok (.aload_n 3, 1) := by decide +kernel
theorem dX1_init_56 : decode cX1_init 56 = .ok (.putfield 41, 3) := by decide +kernel
theorem dX1_init_59 : decode cX1_init 59 = .ok (.return_, 1) := by decide +kernel
set_option maxRecDepth 20000 in
theorem ggX1_runUpTo_X1_run : GoodIn wsX1_runUpTo wsX1_run := goodIn_r _ [9, 10, 11, 12, 13, 3, 14, 15, 16, 17, 8, 18, 19, 20, 21, 22, 23, 24, 25, 26, 27, 28, 29, 30, 1, 31, 32, 33, 34, 35, 36, 37, 38, 39, 40, 41, 42, 43, 44, 45, 46, 47, 48, 49, 50, 51, 52, 53, 54, 55, 56, 57, 58, 59, 60, 61, 62, 63, 64, 65, 66, 67, 68, 69, 70, 78, 79, 80, 81, 82, 83, 84, 85, 86, 71, 72, 73, 74, 75, 76, 77] (by decide +kernel) (by decide +kernel)
set_option maxRecDepth 20000 in
theorem gX1_runUpTo_X1_run : GoodIn wsX1_runUpTo (wsV RX1 52 RX1 yX1_run wsX1_run) := goodIn_app (goodIn_of _ (by decide +kernel)) ggX1_runUpTo_X1_run
theorem dX1_runUpTo_0 : decode cX1_runUpTo 0 = .ok (.aload_n 0, 1) := by decide +kernel
theorem dX1_runUpTo_1 : decode cX1_runUpTo 1 = .ok (.aload_n 0, 1) := by decide +kernel
theorem dX1_runUpTo_2 : decode cX1_runUpTo 2 = .ok (.getfield 33, 3) := by decide +kernel
theorem dX1_runUpTo_5 : decode cX1_runUpTo 5 = .ok (.getfield 45, 3) := by decide +kernel
theorem dX1_runUpTo_8 : decode cX1_runUpTo 8 = .ok (.sipush 1023, 3) := by decide +kernel
theorem dX1_runUpTo_11 : decode cX1_runUpTo 11 = .ok (.aload_n 0, 1) := by decide +kernel
theorem dX1_runUpTo_12 : decode cX1_runUpTo 12 = .ok (.getfield 41, 3) := by decide +kernel
theorem dX1_runUpTo_15 : decode cX1_runUpTo 15 = .ok (.getfield 49, 3) := by decide +kernel
theorem dX1_runUpTo_18 : decode cX1_runUpTo 18 = .ok (.iload_n 1, 1) := by decide +kernel
theorem dX1_runUpTo_19 : decode cX1_runUpTo 19 = .ok (.invokevirtual 52, 3) := by decide +kernel
theorem dX1_runUpTo_22 : decode cX1_runUpTo 22 = .ok (.return_, 1) := by decide +kernel
set_option maxRecDepth 20000 in
theorem ggX1_run_X1_begin : GoodIn wsX1_run wsX1_begin := goodIn_r _ [11, 12, 13, 14, 15, 16, 17, 18, 19, 57, 58, 59, 60, 61, 62, 63, 64, 70, 71, 72, 73] (by decide +kernel) (by decide +kernel)
set_option maxRecDepth 20000 in
theorem gX1_run_X1_begin : GoodIn wsX1_run (wsV RX1 56 RX1 yX1_begin wsX1_begin) := goodIn_app (goodIn_of _ (by decide +kernel)) ggX1_run_X1_begin
set_option maxRecDepth 20000 in
theorem ggX1_run_X1_drip : GoodIn wsX1_run wsX1_drip := goodIn_r _ [23, 12, 13, 24, 25, 26, 14, 16, 27, 28, 29, 30, 31, 32, 33, 34, 35, 36, 37, 38, 57, 58, 59, 60, 61, 62, 63, 64, 70, 71, 72, 73, 74, 75, 76, 77, 78, 79, 80] (by decide +kernel) (by decide +kernel)
set_option maxRecDepth 20000 in
theorem gX1_run_X1_drip : GoodIn wsX1_run (wsV RX1 65 RX1 yX1_drip wsX1_drip) := goodIn_app (goodIn_of _ (by decide +kernel)) ggX1_run_X1_drip
set_option maxRecDepth 20000 in
theorem ggX1_run_X1_fire : GoodIn wsX1_run wsX1_fire := goodIn_r _ [42, 5, 43, 24, 44, 14, 1, 2, 3, 4, 45, 16, 17, 18, 19, 46, 47, 48, 10, 49, 12, 13, 25, 50, 51, 52, 53, 54, 55, 56, 27, 28, 29, 30, 31, 32, 33, 34, 35, 36, 37, 38, 57, 58, 59, 60, 61, 62, 63, 64, 65, 66, 67, 68, 69, 70, 71, 72, 73, 74, 75, 76, 77, 78, 79, 80] (by decide +kernel) (by decide +kernel)
set_option maxRecDepth 20000 in
theorem gX1_run_X1_fire : GoodIn wsX1_run (wsV RX1 72 RX1 yX1_fire wsX1_fire) := goodIn_app (goodIn_of _ (by decide +kernel)) ggX1_run_X1_fire
theorem dX1_run_0 : decode cX1_run 0 = .ok (.aload_n 0, 1) := by decide +kernel
theorem dX1_run_1 : decode cX1_run 1 = .ok (.invokevirtual 56, 3) := by decide +kernel
theorem dX1_run_4 : decode cX1_run 4 = .ok (.iload_n 3, 1) := by decide +kernel
theorem dX1_run_5 : decode cX1_run 5 = .ok (.bipush 10, 2) := by decide +kernel
theorem dX1_run_7 : decode cX1_run 7 = .ok (.invokestatic 59, 3) := by decide +kernel
theorem dX1_run_10 : decode cX1_run 10 = .ok (.istore 5, 2) := by decide +kernel
theorem dX1_run_12 : decode cX1_run 12 = .ok (.iconst 0, 1) := by decide +kernel
theorem dX1_run_13 : decode cX1_run 13 = .ok (.istore 6, 2) := by decide +kernel
theorem dX1_run_15 : decode cX1_run 15 = .ok (.iload 6, 2) := by decide +kernel
theorem dX1_run_17 : decode cX1_run 17 = .ok (.iload 4, 2) := by decide +kernel
theorem dX1_run_19 : decode cX1_run 19 = .ok (.if_icmp .ge 66, 3) := by decide +kernel
theorem dX1_run_22 : decode cX1_run 22 = .ok (.aload_n 0, 1) := by decide +kernel
theorem dX1_run_23 : decode cX1_run 23 = .ok (.iload_n 1, 1) := by decide +kernel
theorem dX1_run_24 : decode cX1_run 24 = .ok (.iload 6, 2) := by decide +kernel
theorem dX1_run_26 : decode cX1_run 26 = .ok (.invokevirtual 65, 3) := by decide +kernel
theorem dX1_run_29 : decode cX1_run 29 = .ok (.iconst 0, 1) := by decide +kernel
theorem dX1_run_30 : decode cX1_run 30 = .ok (.istore 7, 2) := by decide +kernel
theorem dX1_run_32 : decode cX1_run 32 = .ok (.iload 7, 2) := by decide +kernel
theorem dX1_run_34 : decode cX1_run 34 = .ok (.iload 5, 2) := by decide +kernel
theorem dX1_run_36 : decode cX1_run 36 = .ok (.if_icmp .ge 43, 3) := by decide +kernel
theorem dX1_run_39 : decode cX1_run 39 = .ok (.iload_n 2, 1) := by decide +kernel
theorem dX1_run_40 : decode cX1_run 40 = .ok (.iload 7, 2) := by decide +kernel
theorem dX1_run_42 : decode cX1_run 42 = .ok (.ishr, 1) := by decide +kernel
theorem dX1_run_43 : decode cX1_run 43 = .ok (.iconst 1, 1) := by decide +kernel
theorem dX1_run_44 : decode cX1_run 44 = .ok (.iand, 1) := by decide +kernel
theorem dX1_run_45 : decode cX1_run 45 = .ok (.iconst 1, 1) := by decide +kernel
theorem dX1_run_46 : decode cX1_run 46 = .ok (.if_icmp .ne 27, 3) := by decide +kernel
theorem dX1_run_49 : decode cX1_run 49 = .ok (.aload_n 0, 1) := by decide +kernel
theorem dX1_run_50 : decode cX1_run 50 = .ok (.getfield 41, 3) := by decide +kernel
theorem dX1_run_53 : decode cX1_run 53 = .ok (.getfield 69, 3) := by decide +kernel
theorem dX1_run_56 : decode cX1_run 56 = .ok (.iload 7, 2) := by decide +kernel
theorem dX1_run_58 : decode cX1_run 58 = .ok (.iaload, 1) := by decide +kernel
theorem dX1_run_59 : decode cX1_run 59 = .ok (.iload 6, 2) := by decide +kernel
theorem dX1_run_61 : decode cX1_run 61 = .ok (.if_icmp .ne 12, 3) := by decide +kernel
theorem dX1_run_64 : decode cX1_run 64 = .ok (.aload_n 0, 1) := by decide +kernel
theorem dX1_run_65 : decode cX1_run 65 = .ok (.iload 7, 2) := by decide +kernel
theorem dX1_run_67 : decode cX1_run 67 = .ok (.iload_n 1, 1) := by decide +kernel
theorem dX1_run_68 : decode cX1_run 68 = .ok (.iload 6, 2) := by decide +kernel
theorem dX1_run_70 : decode cX1_run 70 = .ok (.invokevirtual 72, 3) := by decide +kernel
theorem dX1_run_73 : decode cX1_run 73 = .ok (.iinc 7 1, 3) := by decide +kernel
theorem dX1_run_76 : decode cX1_run 76 = .ok (.goto (-44), 3) := by decide +kernel
theorem dX1_run_79 : decode cX1_run 79 = .ok (.iinc 6 1, 3) := by decide +kernel
theorem dX1_run_82 : decode cX1_run 82 = .ok (.goto (-67), 3) := by decide +kernel
theorem dX1_run_85 : decode cX1_run 85 = .ok (.return_, 1) := by decide +kernel
theorem dX1_begin_0 : decode cX1_begin 0 = .ok (.iconst 0, 1) := by decide +kernel
theorem dX1_begin_1 : decode cX1_begin 1 = .ok (.istore_n 1, 1) := by decide +kernel
theorem dX1_begin_2 : decode cX1_begin 2 = .ok (.iload_n 1, 1) := by decide +kernel
theorem dX1_begin_3 : decode cX1_begin 3 = .ok (.aload_n 0, 1) := by decide +kernel
theorem dX1_begin_4 : decode cX1_begin 4 = .ok (.getfield 37, 3) := by decide +kernel
theorem dX1_begin_7 : decode cX1_begin 7 = .ok (.getfield 76, 3) := by decide +kernel
theorem dX1_begin_10 : decode cX1_begin 10 = .ok (.if_icmp .ge 24, 3) := by decide +kernel
theorem dX1_begin_13 : decode cX1_begin 13 = .ok (.aload_n 0, 1) := by decide +kernel
theorem dX1_begin_14 : decode cX1_begin 14 = .ok (.getfield 11, 3) := by decide +kernel
theorem dX1_begin_17 : decode cX1_begin 17 = .ok (.iload_n 1, 1) := by decide +kernel
theorem dX1_begin_18 : decode cX1_begin 18 = .ok (.aload_n 0, 1) := by decide +kernel
theorem dX1_begin_19 : decode cX1_begin 19 = .ok (.getfield 37, 3) := by decide +kernel
theorem dX1_begin_22 : decode cX1_begin 22 = .ok (.getfield 77, 3) := by decide +kernel
theorem dX1_begin_25 : decode cX1_begin 25 = .ok (.iload_n 1, 1) := by decide +kernel
theorem dX1_begin_26 : decode cX1_begin 26 = .ok (.iaload, 1) := by decide +kernel
theorem dX1_begin_27 : decode cX1_begin 27 = .ok (.iastore, 1) := by decide +kernel
theorem dX1_begin_28 : decode cX1_begin 28 = .ok (.iinc 1 1, 3) := by decide +kernel
theorem dX1_begin_31 : decode cX1_begin 31 = .ok (.goto (-29), 3) := by decide +kernel
theorem dX1_begin_34 : decode cX1_begin 34 = .ok (.iconst 0, 1) := by decide +kernel
theorem dX1_begin_35 : decode cX1_begin 35 = .ok (.istore_n 1, 1) := by decide +kernel
theorem dX1_begin_36 : decode cX1_begin 36 = .ok (.iload_n 1, 1) := by decide +kernel
theorem dX1_begin_37 : decode cX1_begin 37 = .ok (.bipush 8, 2) := by decide +kernel
theorem dX1_begin_39 : decode cX1_begin 39 = .ok (.if_icmp .ge 23, 3) := by decide +kernel
theorem dX1_begin_42 : decode cX1_begin 42 = .ok (.aload_n 0, 1) := by decide +kernel
theorem dX1_begin_43 : decode cX1_begin 43 = .ok (.getfield 19, 3) := by decide +kernel
theorem dX1_begin_46 : decode cX1_begin 46 = .ok (.iload_n 1, 1) := by decide +kernel
theorem dX1_begin_47 : decode cX1_begin 47 = .ok (.iconst 0, 1) := by decide +kernel
theorem dX1_begin_48 : decode cX1_begin 48 = .ok (.iastore, 1) := by decide +kernel
theorem dX1_begin_49 : decode cX1_begin 49 = .ok (.aload_n 0, 1) := by decide +kernel
theorem dX1_begin_50 : decode cX1_begin 50 = .ok (.getfield 22, 3) := by decide +kernel
theorem dX1_begin_53 : decode cX1_begin 53 = .ok (.iload_n 1, 1) := by decide +kernel
theorem dX1_begin_54 : decode cX1_begin 54 = .ok (.iconst 0, 1) := by decide +kernel
theorem dX1_begin_55 : decode cX1_begin 55 = .ok (.iastore, 1) := by decide +kernel
theorem dX1_begin_56 : decode cX1_begin 56 = .ok (.iinc 1 1, 3) := by decide +kernel
theorem dX1_begin_59 : decode cX1_begin 59 = .ok (.goto (-23), 3) := by decide +kernel
theorem dX1_begin_62 : decode cX1_begin 62 = .ok (.iconst 0, 1) := by decide +kernel
theorem dX1_begin_63 : decode cX1_begin 63 = .ok (.istore_n 1, 1) := by decide +kernel
theorem dX1_begin_64 : decode cX1_begin 64 = .ok (.iload_n 1, 1) := by decide +kernel
theorem dX1_begin_65 : decode cX1_begin 65 = .ok (.bipush 10, 2) := by decide +kernel
theorem dX1_begin_67 : decode cX1_begin 67 = .ok (.if_icmp .ge 24, 3) := by decide +kernel
theorem dX1_begin_70 : decode cX1_begin 70 = .ok (.aload_n 0, 1) := by decide +kernel
theorem dX1_begin_71 : decode cX1_begin 71 = .ok (.getfield 27, 3) := by decide +kernel
theorem dX1_begin_74 : decode cX1_begin 74 = .ok (.iload_n 1, 1) := by decide +kernel
theorem dX1_begin_75 : decode cX1_begin 75 = .ok (.iconst 0, 1) := by decide +kernel
theorem dX1_begin_76 : decode cX1_begin 76 = .ok (.iastore, 1) := by decide +kernel
theorem dX1_begin_77 : decode cX1_begin 77 = .ok (.aload_n 0, 1) := by decide +kernel
theorem dX1_begin_78 : decode cX1_begin 78 = .ok (.getfield 30, 3) := by decide +kernel
theorem dX1_begin_81 : decode cX1_begin 81 = .ok (.iload_n 1, 1) := by decide +kernel
theorem dX1_begin_82 : decode cX1_begin 82 = .ok (.bipush (-9), 2) := by decide +kernel
theorem dX1_begin_84 : decode cX1_begin 84 = .ok (.iastore, 1) := by decide +kernel
theorem dX1_begin_85 : decode cX1_begin 85 = .ok (.iinc 1 1, 3) := by decide +kernel
theorem dX1_begin_88 : decode cX1_begin 88 = .ok (.goto (-24), 3) := by decide +kernel
theorem dX1_begin_91 : decode cX1_begin 91 = .ok (.return_, 1) := by decide +kernel
set_option maxRecDepth 20000 in
theorem ggX1_drip_X6_placeOf : GoodIn wsX1_drip wsX6_placeOf := goodIn_r _ [12, 13, 28, 29, 30, 31] (by decide +kernel) (by decide +kernel)
set_option maxRecDepth 20000 in
theorem gX1_drip_X6_placeOf : GoodIn wsX1_drip (wsV RX1 80 RX6 yX6_placeOf wsX6_placeOf) := goodIn_app (goodIn_of _ (by decide +kernel)) ggX1_drip_X6_placeOf
set_option maxRecDepth 20000 in
theorem ggX1_drip_X3_isField : GoodIn wsX1_drip wsX3_isField := goodIn_r _ [18, 19, 32, 33, 34, 35, 36, 37, 38] (by decide +kernel) (by decide +kernel)
set_option maxRecDepth 20000 in
theorem gX1_drip_X3_isField : GoodIn wsX1_drip (wsV RX1 84 RX3 yX3_isField wsX3_isField) := goodIn_app (goodIn_of _ (by decide +kernel)) ggX1_drip_X3_isField
theorem dX1_drip_0 : decode cX1_drip 0 = .ok (.iconst 0, 1) := by decide +kernel
theorem dX1_drip_1 : decode cX1_drip 1 = .ok (.istore_n 3, 1) := by decide +kernel
theorem dX1_drip_2 : decode cX1_drip 2 = .ok (.iload_n 3, 1) := by decide +kernel
theorem dX1_drip_3 : decode cX1_drip 3 = .ok (.aload_n 0, 1) := by decide +kernel
theorem dX1_drip_4 : decode cX1_drip 4 = .ok (.getfield 37, 3) := by decide +kernel
theorem dX1_drip_7 : decode cX1_drip 7 = .ok (.getfield 76, 3) := by decide +kernel
theorem dX1_drip_10 : decode cX1_drip 10 = .ok (.if_icmp .ge 82, 3) := by decide +kernel
theorem dX1_drip_13 : decode cX1_drip 13 = .ok (.aload_n 0, 1) := by decide +kernel
theorem dX1_drip_14 : decode cX1_drip 14 = .ok (.getfield 37, 3) := by decide +kernel
theorem dX1_drip_17 : decode cX1_drip 17 = .ok (.iload_n 3, 1) := by decide +kernel
theorem dX1_drip_18 : decode cX1_drip 18 = .ok (.iload_n 1, 1) := by decide +kernel
theorem dX1_drip_19 : decode cX1_drip 19 = .ok (.iload_n 2, 1) := by decide +kernel
theorem dX1_drip_20 : decode cX1_drip 20 = .ok (.invokevirtual 80, 3) := by decide +kernel
theorem dX1_drip_23 : decode cX1_drip 23 = .ok (.istore 4, 2) := by decide +kernel
theorem dX1_drip_25 : decode cX1_drip 25 = .ok (.aload_n 0, 1) := by decide +kernel
theorem dX1_drip_26 : decode cX1_drip 26 = .ok (.getfield 33, 3) := by decide +kernel
theorem dX1_drip_29 : decode cX1_drip 29 = .ok (.iload 4, 2) := by decide +kernel
theorem dX1_drip_31 : decode cX1_drip 31 = .ok (.invokevirtual 84, 3) := by decide +kernel
theorem dX1_drip_34 : decode cX1_drip 34 = .ok (.ifCond .eq 52, 3) := by decide +kernel
theorem dX1_drip_37 : decode cX1_drip 37 = .ok (.aload_n 0, 1) := by decide +kernel
theorem dX1_drip_38 : decode cX1_drip 38 = .ok (.getfield 37, 3) := by decide +kernel
theorem dX1_drip_41 : decode cX1_drip 41 = .ok (.getfield 88, 3) := by decide +kernel
theorem dX1_drip_44 : decode cX1_drip 44 = .ok (.iload_n 3, 1) := by decide +kernel
theorem dX1_drip_45 : decode cX1_drip 45 = .ok (.iaload, 1) := by decide +kernel
theorem dX1_drip_46 : decode cX1_drip 46 = .ok (.aload_n 0, 1) := by decide +kernel
theorem dX1_drip_47 : decode cX1_drip 47 = .ok (.getfield 33, 3) := by decide +kernel
theorem dX1_drip_50 : decode cX1_drip 50 = .ok (.getfield 91, 3) := by decide +kernel
theorem dX1_drip_53 : decode cX1_drip 53 = .ok (.if_icmp .gt 33, 3) := by decide +kernel
theorem dX1_drip_56 : decode cX1_drip 56 = .ok (.aload_n 0, 1) := by decide +kernel
theorem dX1_drip_57 : decode cX1_drip 57 = .ok (.getfield 11, 3) := by decide +kernel
theorem dX1_drip_60 : decode cX1_drip 60 = .ok (.iload_n 3, 1) := by decide +kernel
theorem dX1_drip_61 : decode cX1_drip 61 = .ok (.iaload, 1) := by decide +kernel
theorem dX1_drip_62 : decode cX1_drip 62 = .ok (.ifCond .le 24, 3) := by decide +kernel
theorem dX1_drip_65 : decode cX1_drip 65 = .ok (.aload_n 0, 1) := by decide +kernel
theorem dX1_drip_66 : decode cX1_drip 66 = .ok (.getfield 11, 3) := by decide +kernel
theorem dX1_drip_69 : decode cX1_drip 69 = .ok (.iload_n 3, 1) := by decide +kernel
theorem dX1_drip_70 : decode cX1_drip 70 = .ok (.dup2, 1) := by decide +kernel
theorem dX1_drip_71 : decode cX1_drip 71 = .ok (.iaload, 1) := by decide +kernel
theorem dX1_drip_72 : decode cX1_drip 72 = .ok (.iconst 1, 1) := by decide +kernel
theorem dX1_drip_73 : decode cX1_drip 73 = .ok (.isub, 1) := by decide +kernel
theorem dX1_drip_74 : decode cX1_drip 74 = .ok (.iastore, 1) := by decide +kernel
theorem dX1_drip_75 : decode cX1_drip 75 = .ok (.aload_n 0, 1) := by decide +kernel
theorem dX1_drip_76 : decode cX1_drip 76 = .ok (.getfield 19, 3) := by decide +kernel
theorem dX1_drip_79 : decode cX1_drip 79 = .ok (.iload 4, 2) := by decide +kernel
theorem dX1_drip_81 : decode cX1_drip 81 = .ok (.dup2, 1) := by decide +kernel
theorem dX1_drip_82 : decode cX1_drip 82 = .ok (.iaload, 1) := by decide +kernel
theorem dX1_drip_83 : decode cX1_drip 83 = .ok (.iconst 1, 1) := by decide +kernel
theorem dX1_drip_84 : decode cX1_drip 84 = .ok (.iadd, 1) := by decide +kernel
theorem dX1_drip_85 : decode cX1_drip 85 = .ok (.iastore, 1) := by decide +kernel
theorem dX1_drip_86 : decode cX1_drip 86 = .ok (.iinc 3 1, 3) := by decide +kernel
theorem dX1_drip_89 : decode cX1_drip 89 = .ok (.goto (-87), 3) := by decide +kernel
theorem dX1_drip_92 : decode cX1_drip 92 = .ok (.return_, 1) := by decide +kernel
set_option maxRecDepth 20000 in
theorem ggX1_fire_X1_targetOf : GoodIn wsX1_fire wsX1_targetOf := goodIn_r _ [19, 1, 20, 21, 5, 22, 2, 23, 24, 25, 26, 27, 28, 29, 30, 31, 32, 33, 34, 35, 42, 43, 44, 45, 46, 47, 48, 49, 55, 56, 57, 58, 50, 51, 52, 53, 54] (by decide +kernel) (by decide +kernel)
set_option maxRecDepth 20000 in
theorem gX1_fire_X1_targetOf : GoodIn wsX1_fire (wsV RX1 97 RX1 yX1_targetOf wsX1_targetOf) := goodIn_app (goodIn_of _ (by decide +kernel)) ggX1_fire_X1_targetOf
set_option maxRecDepth 20000 in
theorem ggX1_fire_X3_isField : GoodIn wsX1_fire wsX3_isField := goodIn_r _ [40, 41, 59, 60, 61, 62, 63, 64, 65] (by decide +kernel) (by decide +kernel)
set_option maxRecDepth 20000 in
theorem gX1_fire_X3_isField : GoodIn wsX1_fire (wsV RX1 84 RX3 yX3_isField wsX3_isField) := goodIn_app (goodIn_of _ (by decide +kernel)) ggX1_fire_X3_isField
theorem dX1_fire_0 : decode cX1_fire 0 = .ok (.aload_n 0, 1) := by decide +kernel
theorem dX1_fire_1 : decode cX1_fire 1 = .ok (.getfield 41, 3) := by decide +kernel
theorem dX1_fire_4 : decode cX1_fire 4 = .ok (.getfield 94, 3) := by decide +kernel
theorem dX1_fire_7 : decode cX1_fire 7 = .ok (.iload_n 1, 1) := by decide +kernel
theorem dX1_fire_8 : decode cX1_fire 8 = .ok (.iaload, 1) := by decide +kernel
theorem dX1_fire_9 : decode cX1_fire 9 = .ok (.istore 4, 2) := by decide +kernel
theorem dX1_fire_11 : decode cX1_fire 11 = .ok (.aload_n 0, 1) := by decide +kernel
theorem dX1_fire_12 : decode cX1_fire 12 = .ok (.iload_n 1, 1) := by decide +kernel
theorem dX1_fire_13 : decode cX1_fire 13 = .ok (.iload_n 2, 1) := by decide +kernel
theorem dX1_fire_14 : decode cX1_fire 14 = .ok (.iload_n 3, 1) := by decide +kernel
theorem dX1_fire_15 : decode cX1_fire 15 = .ok (.invokevirtual 97, 3) := by decide +kernel
theorem dX1_fire_18 : decode cX1_fire 18 = .ok (.istore 5, 2) := by decide +kernel
theorem dX1_fire_20 : decode cX1_fire 20 = .ok (.iload 5, 2) := by decide +kernel
theorem dX1_fire_22 : decode cX1_fire 22 = .ok (.ifCond .lt 15, 3) := by decide +kernel
theorem dX1_fire_25 : decode cX1_fire 25 = .ok (.aload_n 0, 1) := by decide +kernel
theorem dX1_fire_26 : decode cX1_fire 26 = .ok (.getfield 33, 3) := by decide +kernel
theorem dX1_fire_29 : decode cX1_fire 29 = .ok (.iload 4, 2) := by decide +kernel
theorem dX1_fire_31 : decode cX1_fire 31 = .ok (.invokevirtual 84, 3) := by decide +kernel
theorem dX1_fire_34 : decode cX1_fire 34 = .ok (.ifCond .ne 4, 3) := by decide +kernel
theorem dX1_fire_37 : decode cX1_fire 37 = .ok (.return_, 1) := by decide +kernel
theorem dX1_fire_38 : decode cX1_fire 38 = .ok (.aload_n 0, 1) := by decide +kernel
theorem dX1_fire_39 : decode cX1_fire 39 = .ok (.getfield 41, 3) := by decide +kernel
theorem dX1_fire_42 : decode cX1_fire 42 = .ok (.getfield 100, 3) := by decide +kernel
theorem dX1_fire_45 : decode cX1_fire 45 = .ok (.iload_n 1, 1) := by decide +kernel
theorem dX1_fire_46 : decode cX1_fire 46 = .ok (.iaload, 1) := by decide +kernel
theorem dX1_fire_47 : decode cX1_fire 47 = .ok (.aload_n 0, 1) := by decide +kernel
theorem dX1_fire_48 : decode cX1_fire 48 = .ok (.getfield 11, 3) := by decide +kernel
theorem dX1_fire_51 : decode cX1_fire 51 = .ok (.iload 5, 2) := by decide +kernel
theorem dX1_fire_53 : decode cX1_fire 53 = .ok (.iaload, 1) := by decide +kernel
theorem dX1_fire_54 : decode cX1_fire 54 = .ok (.invokestatic 59, 3) := by decide +kernel
theorem dX1_fire_57 : decode cX1_fire 57 = .ok (.istore 6, 2) := by decide +kernel
theorem dX1_fire_59 : decode cX1_fire 59 = .ok (.aload_n 0, 1) := by decide +kernel
theorem dX1_fire_60 : decode cX1_fire 60 = .ok (.getfield 41, 3) := by decide +kernel
theorem dX1_fire_63 : decode cX1_fire 63 = .ok (.getfield 103, 3) := by decide +kernel
theorem dX1_fire_66 : decode cX1_fire 66 = .ok (.iload_n 1, 1) := by decide +kernel
theorem dX1_fire_67 : decode cX1_fire 67 = .ok (.iaload, 1) := by decide +kernel
theorem dX1_fire_68 : decode cX1_fire 68 = .ok (.iconst 2, 1) := by decide +kernel
theorem dX1_fire_69 : decode cX1_fire 69 = .ok (.if_icmp .ne 10, 3) := by decide +kernel
theorem dX1_fire_72 : decode cX1_fire 72 = .ok (.iload 6, 2) := by decide +kernel
theorem dX1_fire_74 : decode cX1_fire 74 = .ok (.iconst 3, 1) := by decide +kernel
theorem dX1_fire_75 : decode cX1_fire 75 = .ok (.idiv, 1) := by decide +kernel
theorem dX1_fire_76 : decode cX1_fire 76 = .ok (.goto 4, 3) := by decide +kernel
theorem dX1_fire_79 : decode cX1_fire 79 = .ok (.iconst 0, 1) := by decide +kernel
theorem dX1_fire_80 : decode cX1_fire 80 = .ok (.istore 7, 2) := by decide +kernel
theorem dX1_fire_82 : decode cX1_fire 82 = .ok (.aload_n 0, 1) := by decide +kernel
theorem dX1_fire_83 : decode cX1_fire 83 = .ok (.getfield 11, 3) := by decide +kernel
theorem dX1_fire_86 : decode cX1_fire 86 = .ok (.iload 5, 2) := by decide +kernel
theorem dX1_fire_88 : decode cX1_fire 88 = .ok (.dup2, 1) := by decide +kernel
theorem dX1_fire_89 : decode cX1_fire 89 = .ok (.iaload, 1) := by decide +kernel
theorem dX1_fire_90 : decode cX1_fire 90 = .ok (.iload 6, 2) := by decide +kernel
theorem dX1_fire_92 : decode cX1_fire 92 = .ok (.isub, 1) := by decide +kernel
theorem dX1_fire_93 : decode cX1_fire 93 = .ok (.iastore, 1) := by decide +kernel
theorem dX1_fire_94 : decode cX1_fire 94 = .ok (.aload_n 0, 1) := by decide +kernel
theorem dX1_fire_95 : decode cX1_fire 95 = .ok (.getfield 19, 3) := by decide +kernel
theorem dX1_fire_98 : decode cX1_fire 98 = .ok (.iload 4, 2) := by decide +kernel
theorem dX1_fire_100 : decode cX1_fire 100 = .ok (.dup2, 1) := by decide +kernel
theorem dX1_fire_101 : decode cX1_fire 101 = .ok (.iaload, 1) := by decide +kernel
theorem dX1_fire_102 : decode cX1_fire 102 = .ok (.iload 6, 2) := by decide +kernel
theorem dX1_fire_104 : decode cX1_fire 104 = .ok (.iload 7, 2) := by decide +kernel
theorem dX1_fire_106 : decode cX1_fire 106 = .ok (.isub, 1) := by decide +kernel
theorem dX1_fire_107 : decode cX1_fire 107 = .ok (.iadd, 1) := by decide +kernel
theorem dX1_fire_108 : decode cX1_fire 108 = .ok (.iastore, 1) := by decide +kernel
theorem dX1_fire_109 : decode cX1_fire 109 = .ok (.aload_n 0, 1) := by decide +kernel
theorem dX1_fire_110 : decode cX1_fire 110 = .ok (.getfield 22, 3) := by decide +kernel
theorem dX1_fire_113 : decode cX1_fire 113 = .ok (.iload 4, 2) := by decide +kernel
theorem dX1_fire_115 : decode cX1_fire 115 = .ok (.dup2, 1) := by decide +kernel
theorem dX1_fire_116 : decode cX1_fire 116 = .ok (.iaload, 1) := by decide +kernel
theorem dX1_fire_117 : decode cX1_fire 117 = .ok (.iload 7, 2) := by decide +kernel
theorem dX1_fire_119 : decode cX1_fire 119 = .ok (.iadd, 1) := by decide +kernel
theorem dX1_fire_120 : decode cX1_fire 120 = .ok (.iastore, 1) := by decide +kernel
theorem dX1_fire_121 : decode cX1_fire 121 = .ok (.aload_n 0, 1) := by decide +kernel
theorem dX1_fire_122 : decode cX1_fire 122 = .ok (.getfield 27, 3) := by decide +kernel
theorem dX1_fire_125 : decode cX1_fire 125 = .ok (.iload_n 1, 1) := by decide +kernel
theorem dX1_fire_126 : decode cX1_fire 126 = .ok (.iload 6, 2) := by decide +kernel
theorem dX1_fire_128 : decode cX1_fire 128 = .ok (.iastore, 1) := by decide +kernel
theorem dX1_fire_129 : decode cX1_fire 129 = .ok (.aload_n 0, 1) := by decide +kernel
theorem dX1_fire_130 : decode cX1_fire 130 = .ok (.getfield 30, 3) := by decide +kernel
theorem dX1_fire_133 : decode cX1_fire 133 = .ok (.iload_n 1, 1) := by decide +kernel
theorem dX1_fire_134 : decode cX1_fire 134 = .ok (.iload 5, 2) := by decide +kernel
theorem dX1_fire_136 : decode cX1_fire 136 = .ok (.iastore, 1) := by decide +kernel
theorem dX1_fire_137 : decode cX1_fire 137 = .ok (.return_, 1) := by decide +kernel
set_option maxRecDepth 20000 in
theorem ggX1_targetOf_X5_reachOf : GoodIn wsX1_targetOf wsX5_reachOf := goodIn_r _ [11, 12, 13, 32, 33, 34, 35, 36] (by decide +kernel) (by decide +kernel)
set_option maxRecDepth 20000 in
theorem gX1_targetOf_X5_reachOf : GoodIn wsX1_targetOf (wsV RX1 106 RX5 yX5_reachOf wsX5_reachOf) := goodIn_app (goodIn_of _ (by decide +kernel)) ggX1_targetOf_X5_reachOf
set_option maxRecDepth 20000 in
theorem ggX1_targetOf_X6_placeOf : GoodIn wsX1_targetOf wsX6_placeOf := goodIn_r _ [18, 19, 28, 29, 30, 31] (by decide +kernel) (by decide +kernel)
set_option maxRecDepth 20000 in
theorem gX1_targetOf_X6_placeOf : GoodIn wsX1_targetOf (wsV RX1 80 RX6 yX6_placeOf wsX6_placeOf) := goodIn_app (goodIn_of _ (by decide +kernel)) ggX1_targetOf_X6_placeOf
theorem dX1_targetOf_0 : decode cX1_targetOf 0 = .ok (.aload_n 0, 1) := by decide +kernel
theorem dX1_targetOf_1 : decode cX1_targetOf 1 = .ok (.getfield 41, 3) := by decide +kernel
theorem dX1_targetOf_4 : decode cX1_targetOf 4 = .ok (.iload_n 1, 1) := by decide +kernel
theorem dX1_targetOf_5 : decode cX1_targetOf 5 = .ok (.invokevirtual 106, 3) := by decide +kernel
theorem dX1_targetOf_8 : decode cX1_targetOf 8 = .ok (.istore 4, 2) := by decide +kernel
theorem dX1_targetOf_10 : decode cX1_targetOf 10 = .ok (.iconst (-1), 1) := by decide +kernel
theorem dX1_targetOf_11 : decode cX1_targetOf 11 = .ok (.istore 5, 2) := by decide +kernel
theorem dX1_targetOf_13 : decode cX1_targetOf 13 = .ok (.iconst 0, 1) := by decide +kernel
theorem dX1_targetOf_14 : decode cX1_targetOf 14 = .ok (.istore 6, 2) := by decide +kernel
theorem dX1_targetOf_16 : decode cX1_targetOf 16 = .ok (.iload 6, 2) := by decide +kernel
theorem dX1_targetOf_18 : decode cX1_targetOf 18 = .ok (.aload_n 0, 1) := by decide +kernel
theorem dX1_targetOf_19 : decode cX1_targetOf 19 = .ok (.getfield 37, 3) := by decide +kernel
theorem dX1_targetOf_22 : decode cX1_targetOf 22 = .ok (.getfield 76, 3) := by decide +kernel
theorem dX1_targetOf_25 : decode cX1_targetOf 25 = .ok (.if_icmp .ge 101, 3) := by decide +kernel
theorem dX1_targetOf_28 : decode cX1_targetOf 28 = .ok (.aload_n 0, 1) := by decide +kernel
theorem dX1_targetOf_29 : decode cX1_targetOf 29 = .ok (.getfield 11, 3) := by decide +kernel
theorem dX1_targetOf_32 : decode cX1_targetOf 32 = .ok (.iload 6, 2) := by decide +kernel
theorem dX1_targetOf_34 : decode cX1_targetOf 34 = .ok (.iaload, 1) := by decide +kernel
theorem dX1_targetOf_35 : decode cX1_targetOf 35 = .ok (.ifCond .le 45, 3) := by decide +kernel
theorem dX1_targetOf_38 : decode cX1_targetOf 38 = .ok (.aload_n 0, 1) := by decide +kernel
theorem dX1_targetOf_39 : decode cX1_targetOf 39 = .ok (.getfield 37, 3) := by decide +kernel
theorem dX1_targetOf_42 : decode cX1_targetOf 42 = .ok (.getfield 88, 3) := by decide +kernel
theorem dX1_targetOf_45 : decode cX1_targetOf 45 = .ok (.iload 6, 2) := by decide +kernel
theorem dX1_targetOf_47 : decode cX1_targetOf 47 = .ok (.iaload, 1) := by decide +kernel
theorem dX1_targetOf_48 : decode cX1_targetOf 48 = .ok (.iload 4, 2) := by decide +kernel
theorem dX1_targetOf_50 : decode cX1_targetOf 50 = .ok (.if_icmp .gt 30, 3) := by decide +kernel
theorem dX1_targetOf_53 : decode cX1_targetOf 53 = .ok (.aload_n 0, 1) := by decide +kernel
theorem dX1_targetOf_54 : decode cX1_targetOf 54 = .ok (.getfield 37, 3) := by decide +kernel
theorem dX1_targetOf_57 : decode cX1_targetOf 57 = .ok (.iload 6, 2) := by decide +kernel
theorem dX1_targetOf_59 : decode cX1_targetOf 59 = .ok (.iload_n 2, 1) := by decide +kernel
theorem dX1_targetOf_60 : decode cX1_targetOf 60 = .ok (.iload_n 3, 1) := by decide +kernel
theorem dX1_targetOf_61 : decode cX1_targetOf 61 = .ok (.invokevirtual 80, 3) := by decide +kernel
theorem dX1_targetOf_64 : decode cX1_targetOf 64 = .ok (.aload_n 0, 1) := by decide +kernel
theorem dX1_targetOf_65 : decode cX1_targetOf 65 = .ok (.getfield 41, 3) := by decide +kernel
theorem dX1_targetOf_68 : decode cX1_targetOf 68 = .ok (.getfield 94, 3) := by decide +kernel
theorem dX1_targetOf_71 : decode cX1_targetOf 71 = .ok (.iload_n 1, 1) := by decide +kernel
theorem dX1_targetOf_72 : decode cX1_targetOf 72 = .ok (.iaload, 1) := by decide +kernel
theorem dX1_targetOf_73 : decode cX1_targetOf 73 = .ok (.if_icmp .ne 7, 3) := by decide +kernel
theorem dX1_targetOf_76 : decode cX1_targetOf 76 = .ok (.iconst 1, 1) := by decide +kernel
theorem dX1_targetOf_77 : decode cX1_targetOf 77 = .ok (.goto 4, 3) := by decide +kernel
theorem dX1_targetOf_80 : decode cX1_targetOf 80 = .ok (.iconst 0, 1) := by decide +kernel
theorem dX1_targetOf_81 : decode cX1_targetOf 81 = .ok (.istore 7, 2) := by decide +kernel
theorem dX1_targetOf_83 : decode cX1_targetOf 83 = .ok (.iload 7, 2) := by decide +kernel
theorem dX1_targetOf_85 : decode cX1_targetOf 85 = .ok (.ifCond .eq 35, 3) := by decide +kernel
theorem dX1_targetOf_88 : decode cX1_targetOf 88 = .ok (.iload 5, 2) := by decide +kernel
theorem dX1_targetOf_90 : decode cX1_targetOf 90 = .ok (.ifCond .lt 26, 3) := by decide +kernel
theorem dX1_targetOf_93 : decode cX1_targetOf 93 = .ok (.aload_n 0, 1) := by decide +kernel
theorem dX1_targetOf_94 : decode cX1_targetOf 94 = .ok (.getfield 37, 3) := by decide +kernel
theorem dX1_targetOf_97 : decode cX1_targetOf 97 = .ok (.getfield 88, 3) := by decide +kernel
theorem dX1_targetOf_100 : decode cX1_targetOf 100 = .ok (.iload 6, 2) := by decide +kernel
theorem dX1_targetOf_102 : decode cX1_targetOf 102 = .ok (.iaload, 1) := by decide +kernel
theorem dX1_targetOf_103 : decode cX1_targetOf 103 = .ok (.aload_n 0, 1) := by decide +kernel
theorem dX1_targetOf_104 : decode cX1_targetOf 104 = .ok (.getfield 37, 3) := by decide +kernel
theorem dX1_targetOf_107 : decode cX1_targetOf 107 = .ok (.getfield 88, 3) := by decide +kernel
theorem dX1_targetOf_110 : decode cX1_targetOf 110 = .ok (.iload 5, 2) := by decide +kernel
theorem dX1_targetOf_112 : decode cX1_targetOf 112 = .ok (.iaload, 1) := by decide +kernel
theorem dX1_targetOf_113 : decode cX1_targetOf 113 = .ok (.if_icmp .ge 7, 3) := by decide +kernel
theorem dX1_targetOf_116 : decode cX1_targetOf 116 = .ok (.iload 6, 2) := by decide +kernel
theorem dX1_targetOf_118 : decode cX1_targetOf 118 = .ok (.istore 5, 2) := by decide +kernel
theorem dX1_targetOf_120 : decode cX1_targetOf 120 = .ok (.iinc 6 1, 3) := by decide +kernel
theorem dX1_targetOf_123 : decode cX1_targetOf 123 = .ok (.goto (-107), 3) := by decide +kernel
theorem dX1_targetOf_126 : decode cX1_targetOf 126 = .ok (.iload 5, 2) := by decide +kernel
theorem dX1_targetOf_128 : decode cX1_targetOf 128 = .ok (.ireturn, 1) := by decide +kernel
theorem dX1_yieldOfField_0 : decode cX1_yieldOfField 0 = .ok (.aload_n 0, 1) := by decide +kernel
theorem dX1_yieldOfField_1 : decode cX1_yieldOfField 1 = .ok (.getfield 33, 3) := by decide +kernel
theorem dX1_yieldOfField_4 : decode cX1_yieldOfField 4 = .ok (.getfield 110, 3) := by decide +kernel
theorem dX1_yieldOfField_7 : decode cX1_yieldOfField 7 = .ok (.iload_n 1, 1) := by decide +kernel
theorem dX1_yieldOfField_8 : decode cX1_yieldOfField 8 = .ok (.iaload, 1) := by decide +kernel
theorem dX1_yieldOfField_9 : decode cX1_yieldOfField 9 = .ok (.aload_n 0, 1) := by decide +kernel
theorem dX1_yieldOfField_10 : decode cX1_yieldOfField 10 = .ok (.getfield 19, 3) := by decide +kernel
theorem dX1_yieldOfField_13 : decode cX1_yieldOfField 13 = .ok (.iload_n 1, 1) := by decide +kernel
theorem dX1_yieldOfField_14 : decode cX1_yieldOfField 14 = .ok (.iaload, 1) := by decide +kernel
theorem dX1_yieldOfField_15 : decode cX1_yieldOfField 15 = .ok (.aload_n 0, 1) := by decide +kernel
theorem dX1_yieldOfField_16 : decode cX1_yieldOfField 16 = .ok (.getfield 33, 3) := by decide +kernel
theorem dX1_yieldOfField_19 : decode cX1_yieldOfField 19 = .ok (.getfield 113, 3) := by decide +kernel
theorem dX1_yieldOfField_22 : decode cX1_yieldOfField 22 = .ok (.iload_n 1, 1) := by decide +kernel
theorem dX1_yieldOfField_23 : decode cX1_yieldOfField 23 = .ok (.iaload, 1) := by decide +kernel
theorem dX1_yieldOfField_24 : decode cX1_yieldOfField 24 = .ok (.invokestatic 59, 3) := by decide +kernel
theorem dX1_yieldOfField_27 : decode cX1_yieldOfField 27 = .ok (.imul, 1) := by decide +kernel
theorem dX1_yieldOfField_28 : decode cX1_yieldOfField 28 = .ok (.iconst 2, 1) := by decide +kernel
theorem dX1_yieldOfField_29 : decode cX1_yieldOfField 29 = .ok (.aload_n 0, 1) := by decide +kernel
theorem dX1_yieldOfField_30 : decode cX1_yieldOfField 30 = .ok (.getfield 22, 3) := by decide +kernel
theorem dX1_yieldOfField_33 : decode cX1_yieldOfField 33 = .ok (.iload_n 1, 1) := by decide +kernel
theorem dX1_yieldOfField_34 : decode cX1_yieldOfField 34 = .ok (.iaload, 1) := by decide +kernel
theorem dX1_yieldOfField_35 : decode cX1_yieldOfField 35 = .ok (.imul, 1) := by decide +kernel
theorem dX1_yieldOfField_36 : decode cX1_yieldOfField 36 = .ok (.isub, 1) := by decide +kernel
theorem dX1_yieldOfField_37 : decode cX1_yieldOfField 37 = .ok (.istore_n 2, 1) := by decide +kernel
theorem dX1_yieldOfField_38 : decode cX1_yieldOfField 38 = .ok (.iconst 0, 1) := by decide +kernel
theorem dX1_yieldOfField_39 : decode cX1_yieldOfField 39 = .ok (.iload_n 2, 1) := by decide +kernel
theorem dX1_yieldOfField_40 : decode cX1_yieldOfField 40 = .ok (.invokestatic 116, 3) := by decide +kernel
theorem dX1_yieldOfField_43 : decode cX1_yieldOfField 43 = .ok (.ireturn, 1) := by decide +kernel
set_option maxRecDepth 20000 in
theorem ggX1_yieldOf_X3_isOf : GoodIn wsX1_yieldOf wsX3_isOf := goodIn_r _ [7, 8, 33, 34, 35, 36, 37, 38, 39] (by decide +kernel) (by decide +kernel)
set_option maxRecDepth 20000 in
theorem gX1_yieldOf_X3_isOf : GoodIn wsX1_yieldOf (wsV RX1 120 RX3 yX3_isOf wsX3_isOf) := goodIn_app (goodIn_of _ (by decide +kernel)) ggX1_yieldOf_X3_isOf
set_option maxRecDepth 20000 in
theorem ggX1_yieldOf_X1_yieldOfField : GoodIn wsX1_yieldOf wsX1_yieldOfField := goodIn_r _ [13, 1, 14, 15, 16, 17, 18, 19, 20, 21, 22, 23, 24, 25, 26, 27, 28, 29, 30, 31, 32, 33, 34, 35, 36, 37, 38, 39] (by decide +kernel) (by decide +kernel)
set_option maxRecDepth 20000 in
theorem gX1_yieldOf_X1_yieldOfField : GoodIn wsX1_yieldOf (wsV RX1 124 RX1 yX1_yieldOfField wsX1_yieldOfField) := goodIn_app (goodIn_of _ (by decide +kernel)) ggX1_yieldOf_X1_yieldOfField
theorem dX1_yieldOf_0 : decode cX1_yieldOf 0 = .ok (.iconst 0, 1) := by decide +kernel
theorem dX1_yieldOf_1 : decode cX1_yieldOf 1 = .ok (.istore_n 2, 1) := by decide +kernel
theorem dX1_yieldOf_2 : decode cX1_yieldOf 2 = .ok (.iconst 0, 1) := by decide +kernel
theorem dX1_yieldOf_3 : decode cX1_yieldOf 3 = .ok (.istore_n 3, 1) := by decide +kernel
theorem dX1_yieldOf_4 : decode cX1_yieldOf 4 = .ok (.iload_n 3, 1) := by decide +kernel
theorem dX1_yieldOf_5 : decode cX1_yieldOf 5 = .ok (.aload_n 0, 1) := by decide +kernel
theorem dX1_yieldOf_6 : decode cX1_yieldOf 6 = .ok (.getfield 33, 3) := by decide +kernel
theorem dX1_yieldOf_9 : decode cX1_yieldOf 9 = .ok (.getfield 119, 3) := by decide +kernel
theorem dX1_yieldOf_12 : decode cX1_yieldOf 12 = .ok (.if_icmp .ge 29, 3) := by decide +kernel
theorem dX1_yieldOf_15 : decode cX1_yieldOf 15 = .ok (.aload_n 0, 1) := by decide +kernel
theorem dX1_yieldOf_16 : decode cX1_yieldOf 16 = .ok (.getfield 33, 3) := by decide +kernel
theorem dX1_yieldOf_19 : decode cX1_yieldOf 19 = .ok (.iload_n 3, 1) := by decide +kernel
theorem dX1_yieldOf_20 : decode cX1_yieldOf 20 = .ok (.iload_n 1, 1) := by decide +kernel
theorem dX1_yieldOf_21 : decode cX1_yieldOf 21 = .ok (.invokevirtual 120, 3) := by decide +kernel
theorem dX1_yieldOf_24 : decode cX1_yieldOf 24 = .ok (.ifCond .eq 11, 3) := by decide +kernel
theorem dX1_yieldOf_27 : decode cX1_yieldOf 27 = .ok (.iload_n 2, 1) := by decide +kernel
theorem dX1_yieldOf_28 : decode cX1_yieldOf 28 = .ok (.aload_n 0, 1) := by decide +kernel
theorem dX1_yieldOf_29 : decode cX1_yieldOf 29 = .ok (.iload_n 3, 1) := by decide +kernel
theorem dX1_yieldOf_30 : decode cX1_yieldOf 30 = .ok (.invokevirtual 124, 3) := by decide +kernel
theorem dX1_yieldOf_33 : decode cX1_yieldOf 33 = .ok (.iadd, 1) := by decide +kernel
theorem dX1_yieldOf_34 : decode cX1_yieldOf 34 = .ok (.istore_n 2, 1) := by decide +kernel
theorem dX1_yieldOf_35 : decode cX1_yieldOf 35 = .ok (.iinc 3 1, 3) := by decide +kernel
theorem dX1_yieldOf_38 : decode cX1_yieldOf 38 = .ok (.goto (-34), 3) := by decide +kernel
theorem dX1_yieldOf_41 : decode cX1_yieldOf 41 = .ok (.iload_n 2, 1) := by decide +kernel
theorem dX1_yieldOf_42 : decode cX1_yieldOf 42 = .ok (.ireturn, 1) := by decide +kernel
theorem dX2_init_0 : decode cX2_init 0 = .ok (.aload_n 0, 1) := by decide +kernel
theorem dX2_init_1 : decode cX2_init 1 = .ok (.invokespecial 5, 3) := by decide +kernel
theorem dX2_init_4 : decode cX2_init 4 = .ok (.aload_n 0, 1) := by decide +kernel
theorem dX2_init_5 : decode cX2_init 5 = .ok (.iconst 0, 1) := by decide +kernel
theorem dX2_init_6 : decode cX2_init 6 = .ok (.putfield 11, 3) := by decide +kernel
theorem dX2_init_9 : decode cX2_init 9 = .ok (.aload_n 0, 1) := by decide +kernel
theorem dX2_init_10 : decode cX2_init 10 = .ok (.bipush (-9), 2) := by decide +kernel
theorem dX2_init_12 : decode cX2_init 12 = .ok (.putfield 15, 3) := by decide +kernel
theorem dX2_init_15 : decode cX2_init 15 = .ok (.aload_n 0, 1) := by decide +kernel
theorem dX2_init_16 : decode cX2_init 16 = .ok (.bipush 97, 2) := by decide +kernel
theorem dX2_init_18 : decode cX2_init 18 = .ok (.newarray .int, 2) := by decide +kernel
theorem dX2_init_20 : decode cX2_init 20 = .ok (.putfield 18, 3) := by decide +kernel
theorem dX2_init_23 : decode cX2_init 23 = .ok (.aload_n 0, 1) := by decide +kernel
theorem dX2_init_24 : decode cX2_init 24 = .ok (.bipush 97, 2) := by decide +kernel
theorem dX2_init_26 : decode cX2_init 26 = .ok (.newarray .int, 2) := by decide +kernel
theorem dX2_init_28 : decode cX2_init 28 = .ok (.putfield 22, 3) := by decide +kernel
theorem dX2_init_31 : decode cX2_init 31 = .ok (.aload_n 0, 1) := by decide +kernel
theorem dX2_init_32 : decode cX2_init 32 = .ok (.bipush 97, 2) := by decide +kernel
theorem dX2_init_34 : decode cX2_init 34 = .ok (.newarray .int, 2) := by decide +kernel
theorem dX2_init_36 : decode cX2_init 36 = .ok (.putfield 25, 3) := by decide +kernel
theorem dX2_init_39 : decode cX2_init 39 = .ok (.aload_n 0, 1) := by decide +kernel
theorem dX2_init_40 : decode cX2_init 40 = .ok (.bipush 97, 2) := by decide +kernel
theorem dX2_init_42 : decode cX2_init 42 = .ok (.newarray .int, 2) := by decide +kernel
theorem dX2_init_44 : decode cX2_init 44 = .ok (.putfield 28, 3) := by decide +kernel
theorem dX2_init_47 : decode cX2_init 47 = .ok (.aload_n 0, 1) := by decide +kernel
theorem dX2_init_48 : decode cX2_init 48 = .ok (.bipush 97, 2) := by decide +kernel
theorem dX2_init_50 : decode cX2_init 50 = .ok (.newarray .int, 2) := by decide +kernel
theorem dX2_init_52 : decode cX2_init 52 = .ok (.putfield 31, 3) := by decide +kernel
theorem dX2_init_55 : decode cX2_init 55 = .ok (.aload_n 0, 1) := by decide +kernel
theorem dX2_init_56 : decode cX2_init 56 = .ok (.bipush 97, 2) := by decide +kernel
theorem dX2_init_58 : decode cX2_init 58 = .ok (.newarray .int, 2) := by decide +kernel
theorem dX2_init_60 : decode cX2_init 60 = .ok (.putfield 34, 3) := by decide +kernel
theorem dX2_init_63 : decode cX2_init 63 = .ok (.aload_n 0, 1) := by decide +kernel
theorem dX2_init_64 : decode cX2_init 64 = .ok (.sipush 2401, 3) := by decide +kernel
theorem dX2_init_67 : decode cX2_init 67 = .ok (.newarray .int, 2) := by decide +kernel
theorem dX2_init_69 : decode cX2_init 69 = .ok (.putfield 37, 3) := by decide +kernel
theorem dX2_init_72 : decode cX2_init 72 = .ok (.aload_n 0, 1) := by decide +kernel
theorem dX2_init_73 : decode cX2_init 73 = .ok (.iconst 0, 1) := by decide +kernel
theorem dX2_init_74 : decode cX2_init 74 = .ok (.putfield 40, 3) := by decide +kernel
theorem dX2_init_77 : decode cX2_init 77 = .ok (.aload_n 0, 1) := by decide +kernel
theorem dX2_init_78 : decode cX2_init 78 = .ok (.iconst 0, 1) := by decide +kernel
theorem dX2_init_79 : decode cX2_init 79 = .ok (.putfield 43, 3) := by decide +kernel
theorem dX2_init_82 : decode cX2_init 82 = .ok (.aload_n 0, 1) := by decide +kernel
theorem dX2_init_83 : decode cX2_init 83 = .ok (.aload_n 1, 1) := by decide +kernel
theorem dX2_init_84 : decode cX2_init 84 = .ok (.putfield 46, 3) := by decide +kernel
theorem dX2_init_87 : decode cX2_init 87 = .ok (.aload_n 0, 1) := by decide +kernel
theorem dX2_init_88 : decode cX2_init 88 = .ok (.aload_n 2, 1) := by decide +kernel
theorem dX2_init_89 : decode cX2_init 89 = .ok (.putfield 50, 3) := by decide +kernel
theorem dX2_init_92 : decode cX2_init 92 = .ok (.aload_n 0, 1) := by decide +kernel
theorem dX2_init_93 : decode cX2_init 93 = .ok (.aload_n 3, 1) := by decide +kernel
theorem dX2_init_94 : decode cX2_init 94 = .ok (.putfield 54, 3) := by decide +kernel
theorem dX2_init_97 : decode cX2_init 97 = .ok (.return_, 1) := by decide +kernel
theorem dX3_init_0 : decode cX3_init 0 = .ok (.aload_n 0, 1) := by decide +kernel
theorem dX3_init_1 : decode cX3_init 1 = .ok (.invokespecial 3, 3) := by decide +kernel
theorem dX3_init_4 : decode cX3_init 4 = .ok (.aload_n 0, 1) := by decide +kernel
theorem dX3_init_5 : decode cX3_init 5 = .ok (.bipush 8, 2) := by decide +kernel
theorem dX3_init_7 : decode cX3_init 7 = .ok (.newarray .int, 2) := by decide +kernel
theorem dX3_init_9 : decode cX3_init 9 = .ok (.putfield 11, 3) := by decide +kernel
theorem dX3_init_12 : decode cX3_init 12 = .ok (.aload_n 0, 1) := by decide +kernel
theorem dX3_init_13 : decode cX3_init 13 = .ok (.bipush 8, 2) := by decide +kernel
theorem dX3_init_15 : decode cX3_init 15 = .ok (.newarray .int, 2) := by decide +kernel
theorem dX3_init_17 : decode cX3_init 17 = .ok (.putfield 15, 3) := by decide +kernel
theorem dX3_init_20 : decode cX3_init 20 = .ok (.aload_n 0, 1) := by decide +kernel
theorem dX3_init_21 : decode cX3_init 21 = .ok (.bipush 8, 2) := by decide +kernel
theorem dX3_init_23 : decode cX3_init 23 = .ok (.newarray .int, 2) := by decide +kernel
theorem dX3_init_25 : decode cX3_init 25 = .ok (.putfield 18, 3) := by decide +kernel
theorem dX3_init_28 : decode cX3_init 28 = .ok (.aload_n 0, 1) := by decide +kernel
theorem dX3_init_29 : decode cX3_init 29 = .ok (.iconst 0, 1) := by decide +kernel
theorem dX3_init_30 : decode cX3_init 30 = .ok (.putfield 21, 3) := by decide +kernel
theorem dX3_init_33 : decode cX3_init 33 = .ok (.aload_n 0, 1) := by decide +kernel
theorem dX3_init_34 : decode cX3_init 34 = .ok (.iconst 0, 1) := by decide +kernel
theorem dX3_init_35 : decode cX3_init 35 = .ok (.putfield 25, 3) := by decide +kernel
theorem dX3_init_38 : decode cX3_init 38 = .ok (.aload_n 0, 1) := by decide +kernel
theorem dX3_init_39 : decode cX3_init 39 = .ok (.iconst 0, 1) := by decide +kernel
theorem dX3_init_40 : decode cX3_init 40 = .ok (.putfield 28, 3) := by decide +kernel
theorem dX3_init_43 : decode cX3_init 43 = .ok (.aload_n 0, 1) := by decide +kernel
theorem dX3_init_44 : decode cX3_init 44 = .ok (.iconst 0, 1) := by decide +kernel
theorem dX3_init_45 : decode cX3_init 45 = .ok (.putfield 31, 3) := by decide +kernel
theorem dX3_init_48 : decode cX3_init 48 = .ok (.return_, 1) := by decide +kernel
theorem dX3_isField_0 : decode cX3_isField 0 = .ok (.iload_n 1, 1) := by decide +kernel
theorem dX3_isField_1 : decode cX3_isField 1 = .ok (.ifCond .lt 15, 3) := by decide +kernel
theorem dX3_isField_4 : decode cX3_isField 4 = .ok (.iload_n 1, 1) := by decide +kernel
theorem dX3_isField_5 : decode cX3_isField 5 = .ok (.aload_n 0, 1) := by decide +kernel
theorem dX3_isField_6 : decode cX3_isField 6 = .ok (.getfield 21, 3) := by decide +kernel
theorem dX3_isField_9 : decode cX3_isField 9 = .ok (.if_icmp .ge 7, 3) := by decide +kernel
theorem dX3_isField_12 : decode cX3_isField 12 = .ok (.iconst 1, 1) := by decide +kernel
theorem dX3_isField_13 : decode cX3_isField 13 = .ok (.goto 4, 3) := by decide +kernel
theorem dX3_isField_16 : decode cX3_isField 16 = .ok (.iconst 0, 1) := by decide +kernel
theorem dX3_isField_17 : decode cX3_isField 17 = .ok (.ireturn, 1) := by decide +kernel
theorem dX3_isOf_0 : decode cX3_isOf 0 = .ok (.iload_n 2, 1) := by decide +kernel
theorem dX3_isOf_1 : decode cX3_isOf 1 = .ok (.iconst (-1), 1) := by decide +kernel
theorem dX3_isOf_2 : decode cX3_isOf 2 = .ok (.if_icmp .eq 13, 3) := by decide +kernel
theorem dX3_isOf_5 : decode cX3_isOf 5 = .ok (.aload_n 0, 1) := by decide +kernel
theorem dX3_isOf_6 : decode cX3_isOf 6 = .ok (.getfield 11, 3) := by decide +kernel
theorem dX3_isOf_9 : decode cX3_isOf 9 = .ok (.iload_n 1, 1) := by decide +kernel
theorem dX3_isOf_10 : decode cX3_isOf 10 = .ok (.iaload, 1) := by decide +kernel
theorem dX3_isOf_11 : decode cX3_isOf 11 = .ok (.iload_n 2, 1) := by decide +kernel
theorem dX3_isOf_12 : decode cX3_isOf 12 = .ok (.if_icmp .ne 7, 3) := by decide +kernel
theorem dX3_isOf_15 : decode cX3_isOf 15 = .ok (.iconst 1, 1) := by decide +kernel
theorem dX3_isOf_16 : decode cX3_isOf 16 = .ok (.goto 4, 3) := by decide +kernel
theorem dX3_isOf_19 : decode cX3_isOf 19 = .ok (.iconst 0, 1) := by decide +kernel
theorem dX3_isOf_20 : decode cX3_isOf 20 = .ok (.ireturn, 1) := by decide +kernel
theorem dX3_isAllowed_0 : decode cX3_isAllowed 0 = .ok (.aload_n 0, 1) := by decide +kernel
theorem dX3_isAllowed_1 : decode cX3_isAllowed 1 = .ok (.getfield 31, 3) := by decide +kernel
theorem dX3_isAllowed_4 : decode cX3_isAllowed 4 = .ok (.iload_n 1, 1) := by decide +kernel
theorem dX3_isAllowed_5 : decode cX3_isAllowed 5 = .ok (.ishr, 1) := by decide +kernel
theorem dX3_isAllowed_6 : decode cX3_isAllowed 6 = .ok (.iconst 1, 1) := by decide +kernel
theorem dX3_isAllowed_7 : decode cX3_isAllowed 7 = .ok (.iand, 1) := by decide +kernel
theorem dX3_isAllowed_8 : decode cX3_isAllowed 8 = .ok (.ifCond .ne 7, 3) := by decide +kernel
theorem dX3_isAllowed_11 : decode cX3_isAllowed 11 = .ok (.iconst 1, 1) := by decide +kernel
theorem dX3_isAllowed_12 : decode cX3_isAllowed 12 = .ok (.goto 4, 3) := by decide +kernel
theorem dX3_isAllowed_15 : decode cX3_isAllowed 15 = .ok (.iconst 0, 1) := by decide +kernel
theorem dX3_isAllowed_16 : decode cX3_isAllowed 16 = .ok (.ireturn, 1) := by decide +kernel
set_option maxRecDepth 20000 in
theorem ggX3_faultOfText_X4_read : GoodIn wsX3_faultOfText wsX4_read := goodIn_r _ [5, 6, 11, 12, 13] (by decide +kernel) (by decide +kernel)
set_option maxRecDepth 20000 in
theorem gX3_faultOfText_X4_read : GoodIn wsX3_faultOfText (wsV RX3 34 RX4 yX4_read wsX4_read) := goodIn_app (goodIn_of _ (by decide +kernel)) ggX3_faultOfText_X4_read
set_option maxRecDepth 20000 in
theorem ggX3_faultOfText_X3_goesOn : GoodIn wsX3_faultOfText wsX3_goesOn := goodIn_r _ [10] (by decide +kernel) (by decide +kernel)
set_option maxRecDepth 20000 in
theorem gX3_faultOfText_X3_goesOn : GoodIn wsX3_faultOfText (va_wsS RX3 40 yX3_goesOn wsX3_goesOn) := goodIn_app (goodIn_of _ (by decide +kernel)) ggX3_faultOfText_X3_goesOn
theorem dX3_faultOfText_0 : decode cX3_faultOfText 0 = .ok (.iconst 0, 1) := by decide +kernel
theorem dX3_faultOfText_1 : decode cX3_faultOfText 1 = .ok (.istore_n 3, 1) := by decide +kernel
theorem dX3_faultOfText_2 : decode cX3_faultOfText 2 = .ok (.iload_n 3, 1) := by decide +kernel
theorem dX3_faultOfText_3 : decode cX3_faultOfText 3 = .ok (.iload_n 2, 1) := by decide +kernel
theorem dX3_faultOfText_4 : decode cX3_faultOfText 4 = .ok (.if_icmp .ge 25, 3) := by decide +kernel
theorem dX3_faultOfText_7 : decode cX3_faultOfText 7 = .ok (.iload_n 3, 1) := by decide +kernel
theorem dX3_faultOfText_8 : decode cX3_faultOfText 8 = .ok (.aload_n 0, 1) := by decide +kernel
theorem dX3_faultOfText_9 : decode cX3_faultOfText 9 = .ok (.iload_n 1, 1) := by decide +kernel
theorem dX3_faultOfText_10 : decode cX3_faultOfText 10 = .ok (.iload_n 3, 1) := by decide +kernel
theorem dX3_faultOfText_11 : decode cX3_faultOfText 11 = .ok (.iadd, 1) := by decide +kernel
theorem dX3_faultOfText_12 : decode cX3_faultOfText 12 = .ok (.invokevirtual 34, 3) := by decide +kernel
theorem dX3_faultOfText_15 : decode cX3_faultOfText 15 = .ok (.invokestatic 40, 3) := by decide +kernel
theorem dX3_faultOfText_18 : decode cX3_faultOfText 18 = .ok (.ifCond .ne 5, 3) := by decide +kernel
theorem dX3_faultOfText_21 : decode cX3_faultOfText 21 = .ok (.iload_n 3, 1) := by decide +kernel
theorem dX3_faultOfText_22 : decode cX3_faultOfText 22 = .ok (.ireturn, 1) := by decide +kernel
theorem dX3_faultOfText_23 : decode cX3_faultOfText 23 = .ok (.iinc 3 1, 3) := by decide +kernel
theorem dX3_faultOfText_26 : decode cX3_faultOfText 26 = .ok (.goto (-24), 3) := by decide +kernel
theorem dX3_faultOfText_29 : decode cX3_faultOfText 29 = .ok (.iload_n 2, 1) := by decide +kernel
theorem dX3_faultOfText_30 : decode cX3_faultOfText 30 = .ok (.iconst 4, 1) := by decide +kernel
theorem dX3_faultOfText_31 : decode cX3_faultOfText 31 = .ok (.irem, 1) := by decide +kernel
theorem dX3_faultOfText_32 : decode cX3_faultOfText 32 = .ok (.iconst 3, 1) := by decide +kernel
theorem dX3_faultOfText_33 : decode cX3_faultOfText 33 = .ok (.if_icmp .ne 13, 3) := by decide +kernel
theorem dX3_faultOfText_36 : decode cX3_faultOfText 36 = .ok (.iload_n 2, 1) := by decide +kernel
theorem dX3_faultOfText_37 : decode cX3_faultOfText 37 = .ok (.bipush 7, 2) := by decide +kernel
theorem dX3_faultOfText_39 : decode cX3_faultOfText 39 = .ok (.if_icmp .lt 7, 3) := by decide +kernel
theorem dX3_faultOfText_42 : decode cX3_faultOfText 42 = .ok (.iconst 1, 1) := by decide +kernel
theorem dX3_faultOfText_43 : decode cX3_faultOfText 43 = .ok (.goto 4, 3) := by decide +kernel
theorem dX3_faultOfText_46 : decode cX3_faultOfText 46 = .ok (.iconst 0, 1) := by decide +kernel
theorem dX3_faultOfText_47 : decode cX3_faultOfText 47 = .ok (.istore_n 3, 1) := by decide +kernel
theorem dX3_faultOfText_48 : decode cX3_faultOfText 48 = .ok (.iload_n 3, 1) := by decide +kernel
theorem dX3_faultOfText_49 : decode cX3_faultOfText 49 = .ok (.ifCond .eq 7, 3) := by decide +kernel
theorem dX3_faultOfText_52 : decode cX3_faultOfText 52 = .ok (.iconst (-1), 1) := by decide +kernel
theorem dX3_faultOfText_53 : decode cX3_faultOfText 53 = .ok (.goto 4, 3) := by decide +kernel
theorem dX3_faultOfText_56 : decode cX3_faultOfText 56 = .ok (.iload_n 2, 1) := by decide +kernel
theorem dX3_faultOfText_57 : decode cX3_faultOfText 57 = .ok (.ireturn, 1) := by decide +kernel
theorem dX3_goesOn_0 : decode cX3_goesOn 0 = .ok (.iload_n 0, 1) := by decide +kernel
theorem dX3_goesOn_1 : decode cX3_goesOn 1 = .ok (.iconst 4, 1) := by decide +kernel
theorem dX3_goesOn_2 : decode cX3_goesOn 2 = .ok (.irem, 1) := by decide +kernel
theorem dX3_goesOn_3 : decode cX3_goesOn 3 = .ok (.istore_n 2, 1) := by decide +kernel
theorem dX3_goesOn_4 : decode cX3_goesOn 4 = .ok (.iload_n 2, 1) := by decide +kernel
theorem dX3_goesOn_5 : decode cX3_goesOn 5 = .ok (.iconst 3, 1) := by decide +kernel
theorem dX3_goesOn_6 : decode cX3_goesOn 6 = .ok (.if_icmp .ne 21, 3) := by decide +kernel
theorem dX3_goesOn_9 : decode cX3_goesOn 9 = .ok (.iload_n 1, 1) := by decide +kernel
theorem dX3_goesOn_10 : decode cX3_goesOn 10 = .ok (.bipush 59, 2) := by decide +kernel
theorem dX3_goesOn_12 : decode cX3_goesOn 12 = .ok (.if_icmp .ne 13, 3) := by decide +kernel
theorem dX3_goesOn_15 : decode cX3_goesOn 15 = .ok (.iload_n 0, 1) := by decide +kernel
theorem dX3_goesOn_16 : decode cX3_goesOn 16 = .ok (.bipush 31, 2) := by decide +kernel
theorem dX3_goesOn_18 : decode cX3_goesOn 18 = .ok (.if_icmp .ge 7, 3) := by decide +kernel
theorem dX3_goesOn_21 : decode cX3_goesOn 21 = .ok (.iconst 1, 1) := by decide +kernel
theorem dX3_goesOn_22 : decode cX3_goesOn 22 = .ok (.goto 4, 3) := by decide +kernel
theorem dX3_goesOn_25 : decode cX3_goesOn 25 = .ok (.iconst 0, 1) := by decide +kernel
theorem dX3_goesOn_26 : decode cX3_goesOn 26 = .ok (.ireturn, 1) := by decide +kernel
theorem dX3_goesOn_27 : decode cX3_goesOn 27 = .ok (.iload_n 2, 1) := by decide +kernel
theorem dX3_goesOn_28 : decode cX3_goesOn 28 = .ok (.ifCond .ne 8, 3) := by decide +kernel
theorem dX3_goesOn_31 : decode cX3_goesOn 31 = .ok (.bipush 51, 2) := by decide +kernel
theorem dX3_goesOn_33 : decode cX3_goesOn 33 = .ok (.goto 5, 3) := by decide +kernel
theorem dX3_goesOn_36 : decode cX3_goesOn 36 = .ok (.bipush 57, 2) := by decide +kernel
theorem dX3_goesOn_38 : decode cX3_goesOn 38 = .ok (.istore_n 3, 1) := by decide +kernel
theorem dX3_goesOn_39 : decode cX3_goesOn 39 = .ok (.iload_n 1, 1) := by decide +kernel
theorem dX3_goesOn_40 : decode cX3_goesOn 40 = .ok (.bipush 48, 2) := by decide +kernel
theorem dX3_goesOn_42 : decode cX3_goesOn 42 = .ok (.if_icmp .lt 12, 3) := by decide +kernel
theorem dX3_goesOn_45 : decode cX3_goesOn 45 = .ok (.iload_n 1, 1) := by decide +kernel
theorem dX3_goesOn_46 : decode cX3_goesOn 46 = .ok (.iload_n 3, 1) := by decide +kernel
theorem dX3_goesOn_47 : decode cX3_goesOn 47 = .ok (.if_icmp .gt 7, 3) := by decide +kernel
theorem dX3_goesOn_50 : decode cX3_goesOn 50 = .ok (.iconst 1, 1) := by decide +kernel
theorem dX3_goesOn_51 : decode cX3_goesOn 51 = .ok (.goto 4, 3) := by decide +kernel
theorem dX3_goesOn_54 : decode cX3_goesOn 54 = .ok (.iconst 0, 1) := by decide +kernel
theorem dX3_goesOn_55 : decode cX3_goesOn 55 = .ok (.ireturn, 1) := by decide +kernel
set_option maxRecDepth 20000 in
theorem ggX3_takeText_X4_read : GoodIn wsX3_takeText wsX4_read := goodIn_r _ [16, 17, 25, 26, 27] (by decide +kernel) (by decide +kernel)
set_option maxRecDepth 20000 in
theorem gX3_takeText_X4_read : GoodIn wsX3_takeText (wsV RX3 34 RX4 yX4_read wsX4_read) := goodIn_app (goodIn_of _ (by decide +kernel)) ggX3_takeText_X4_read
theorem dX3_takeText_0 : decode cX3_takeText 0 = .ok (.aload_n 0, 1) := by decide +kernel
theorem dX3_takeText_1 : decode cX3_takeText 1 = .ok (.iload_n 3, 1) := by decide +kernel
theorem dX3_takeText_2 : decode cX3_takeText 2 = .ok (.iconst 1, 1) := by decide +kernel
theorem dX3_takeText_3 : decode cX3_takeText 3 = .ok (.iadd, 1) := by decide +kernel
theorem dX3_takeText_4 : decode cX3_takeText 4 = .ok (.iconst 4, 1) := by decide +kernel
theorem dX3_takeText_5 : decode cX3_takeText 5 = .ok (.idiv, 1) := by decide +kernel
theorem dX3_takeText_6 : decode cX3_takeText 6 = .ok (.bipush 8, 2) := by decide +kernel
theorem dX3_takeText_8 : decode cX3_takeText 8 = .ok (.invokestatic 44, 3) := by decide +kernel
theorem dX3_takeText_11 : decode cX3_takeText 11 = .ok (.putfield 21, 3) := by decide +kernel
theorem dX3_takeText_14 : decode cX3_takeText 14 = .ok (.iconst 0, 1) := by decide +kernel
theorem dX3_takeText_15 : decode cX3_takeText 15 = .ok (.istore 4, 2) := by decide +kernel
theorem dX3_takeText_17 : decode cX3_takeText 17 = .ok (.iload 4, 2) := by decide +kernel
theorem dX3_takeText_19 : decode cX3_takeText 19 = .ok (.aload_n 0, 1) := by decide +kernel
theorem dX3_takeText_20 : decode cX3_takeText 20 = .ok (.getfield 21, 3) := by decide +kernel
theorem dX3_takeText_23 : decode cX3_takeText 23 = .ok (.if_icmp .ge 69, 3) := by decide +kernel
theorem dX3_takeText_26 : decode cX3_takeText 26 = .ok (.iload_n 2, 1) := by decide +kernel
theorem dX3_takeText_27 : decode cX3_takeText 27 = .ok (.iload 4, 2) := by decide +kernel
theorem dX3_takeText_29 : decode cX3_takeText 29 = .ok (.iconst 4, 1) := by decide +kernel
theorem dX3_takeText_30 : decode cX3_takeText 30 = .ok (.imul, 1) := by decide +kernel
theorem dX3_takeText_31 : decode cX3_takeText 31 = .ok (.iadd, 1) := by decide +kernel
theorem dX3_takeText_32 : decode cX3_takeText 32 = .ok (.istore 5, 2) := by decide +kernel
theorem dX3_takeText_34 : decode cX3_takeText 34 = .ok (.aload_n 0, 1) := by decide +kernel
theorem dX3_takeText_35 : decode cX3_takeText 35 = .ok (.getfield 11, 3) := by decide +kernel
theorem dX3_takeText_38 : decode cX3_takeText 38 = .ok (.iload 4, 2) := by decide +kernel
theorem dX3_takeText_40 : decode cX3_takeText 40 = .ok (.aload_n 1, 1) := by decide +kernel
theorem dX3_takeText_41 : decode cX3_takeText 41 = .ok (.iload 5, 2) := by decide +kernel
theorem dX3_takeText_43 : decode cX3_takeText 43 = .ok (.invokevirtual 34, 3) := by decide +kernel
theorem dX3_takeText_46 : decode cX3_takeText 46 = .ok (.bipush 48, 2) := by decide +kernel
theorem dX3_takeText_48 : decode cX3_takeText 48 = .ok (.isub, 1) := by decide +kernel
theorem dX3_takeText_49 : decode cX3_takeText 49 = .ok (.iastore, 1) := by decide +kernel
theorem dX3_takeText_50 : decode cX3_takeText 50 = .ok (.aload_n 0, 1) := by decide +kernel
theorem dX3_takeText_51 : decode cX3_takeText 51 = .ok (.getfield 15, 3) := by decide +kernel
theorem dX3_takeText_54 : decode cX3_takeText 54 = .ok (.iload 4, 2) := by decide +kernel
theorem dX3_takeText_56 : decode cX3_takeText 56 = .ok (.aload_n 1, 1) := by decide +kernel
theorem dX3_takeText_57 : decode cX3_takeText 57 = .ok (.iload 5, 2) := by decide +kernel
theorem dX3_takeText_59 : decode cX3_takeText 59 = .ok (.iconst 1, 1) := by decide +kernel
theorem dX3_takeText_60 : decode cX3_takeText 60 = .ok (.iadd, 1) := by decide +kernel
theorem dX3_takeText_61 : decode cX3_takeText 61 = .ok (.invokevirtual 34, 3) := by decide +kernel
theorem dX3_takeText_64 : decode cX3_takeText 64 = .ok (.bipush 48, 2) := by decide +kernel
theorem dX3_takeText_66 : decode cX3_takeText 66 = .ok (.isub, 1) := by decide +kernel
theorem dX3_takeText_67 : decode cX3_takeText 67 = .ok (.iastore, 1) := by decide +kernel
theorem dX3_takeText_68 : decode cX3_takeText 68 = .ok (.aload_n 0, 1) := by decide +kernel
theorem dX3_takeText_69 : decode cX3_takeText 69 = .ok (.getfield 18, 3) := by decide +kernel
theorem dX3_takeText_72 : decode cX3_takeText 72 = .ok (.iload 4, 2) := by decide +kernel
theorem dX3_takeText_74 : decode cX3_takeText 74 = .ok (.aload_n 1, 1) := by decide +kernel
theorem dX3_takeText_75 : decode cX3_takeText 75 = .ok (.iload 5, 2) := by decide +kernel
theorem dX3_takeText_77 : decode cX3_takeText 77 = .ok (.iconst 2, 1) := by decide +kernel
theorem dX3_takeText_78 : decode cX3_takeText 78 = .ok (.iadd, 1) := by decide +kernel
theorem dX3_takeText_79 : decode cX3_takeText 79 = .ok (.invokevirtual 34, 3) := by decide +kernel
theorem dX3_takeText_82 : decode cX3_takeText 82 = .ok (.bipush 48, 2) := by decide +kernel
theorem dX3_takeText_84 : decode cX3_takeText 84 = .ok (.isub, 1) := by decide +kernel
theorem dX3_takeText_85 : decode cX3_takeText 85 = .ok (.iastore, 1) := by decide +kernel
theorem dX3_takeText_86 : decode cX3_takeText 86 = .ok (.iinc 4 1, 3) := by decide +kernel
theorem dX3_takeText_89 : decode cX3_takeText 89 = .ok (.goto (-72), 3) := by decide +kernel
theorem dX3_takeText_92 : decode cX3_takeText 92 = .ok (.aload_n 0, 1) := by decide +kernel
theorem dX3_takeText_93 : decode cX3_takeText 93 = .ok (.iconst 0, 1) := by decide +kernel
theorem dX3_takeText_94 : decode cX3_takeText 94 = .ok (.putfield 25, 3) := by decide +kernel
theorem dX3_takeText_97 : decode cX3_takeText 97 = .ok (.aload_n 0, 1) := by decide +kernel
theorem dX3_takeText_98 : decode cX3_takeText 98 = .ok (.iconst 0, 1) := by decide +kernel
theorem dX3_takeText_99 : decode cX3_takeText 99 = .ok (.putfield 28, 3) := by decide +kernel
theorem dX3_takeText_102 : decode cX3_takeText 102 = .ok (.aload_n 0, 1) := by decide +kernel
theorem dX3_takeText_103 : decode cX3_takeText 103 = .ok (.iconst 0, 1) := by decide +kernel
theorem dX3_takeText_104 : decode cX3_takeText 104 = .ok (.putfield 31, 3) := by decide +kernel
theorem dX3_takeText_107 : decode cX3_takeText 107 = .ok (.return_, 1) := by decide +kernel
theorem dX4_init_0 : decode cX4_init 0 = .ok (.aload_n 0, 1) := by decide +kernel
theorem dX4_init_1 : decode cX4_init 1 = .ok (.invokespecial 3, 3) := by decide +kernel
theorem dX4_init_4 : decode cX4_init 4 = .ok (.aload_n 0, 1) := by decide +kernel
theorem dX4_init_5 : decode cX4_init 5 = .ok (.bipush 40, 2) := by decide +kernel
theorem dX4_init_7 : decode cX4_init 7 = .ok (.newarray .int, 2) := by decide +kernel
theorem dX4_init_9 : decode cX4_init 9 = .ok (.putfield 11, 3) := by decide +kernel
theorem dX4_init_12 : decode cX4_init 12 = .ok (.aload_n 0, 1) := by decide +kernel
theorem dX4_init_13 : decode cX4_init 13 = .ok (.iconst 0, 1) := by decide +kernel
theorem dX4_init_14 : decode cX4_init 14 = .ok (.putfield 15, 3) := by decide +kernel
theorem dX4_init_17 : decode cX4_init 17 = .ok (.aload_n 0, 1) := by decide +kernel
theorem dX4_init_18 : decode cX4_init 18 = .ok (.iconst (-1), 1) := by decide +kernel
theorem dX4_init_19 : decode cX4_init 19 = .ok (.putfield 19, 3) := by decide +kernel
theorem dX4_init_22 : decode cX4_init 22 = .ok (.return_, 1) := by decide +kernel
theorem dX4_hasRow_0 : decode cX4_hasRow 0 = .ok (.aload_n 0, 1) := by decide +kernel
theorem dX4_hasRow_1 : decode cX4_hasRow 1 = .ok (.getfield 19, 3) := by decide +kernel
theorem dX4_hasRow_4 : decode cX4_hasRow 4 = .ok (.iconst (-1), 1) := by decide +kernel
theorem dX4_hasRow_5 : decode cX4_hasRow 5 = .ok (.if_icmp .eq 7, 3) := by decide +kernel
theorem dX4_hasRow_8 : decode cX4_hasRow 8 = .ok (.iconst 1, 1) := by decide +kernel
theorem dX4_hasRow_9 : decode cX4_hasRow 9 = .ok (.goto 4, 3) := by decide +kernel
theorem dX4_hasRow_12 : decode cX4_hasRow 12 = .ok (.iconst 0, 1) := by decide +kernel
theorem dX4_hasRow_13 : decode cX4_hasRow 13 = .ok (.ireturn, 1) := by decide +kernel
theorem dX4_renew_0 : decode cX4_renew 0 = .ok (.aload_n 0, 1) := by decide +kernel
theorem dX4_renew_1 : decode cX4_renew 1 = .ok (.iload_n 1, 1) := by decide +kernel
theorem dX4_renew_2 : decode cX4_renew 2 = .ok (.putfield 15, 3) := by decide +kernel
theorem dX4_renew_5 : decode cX4_renew 5 = .ok (.aload_n 0, 1) := by decide +kernel
theorem dX4_renew_6 : decode cX4_renew 6 = .ok (.iload_n 2, 1) := by decide +kernel
theorem dX4_renew_7 : decode cX4_renew 7 = .ok (.putfield 19, 3) := by decide +kernel
theorem dX4_renew_10 : decode cX4_renew 10 = .ok (.iconst 0, 1) := by decide +kernel
theorem dX4_renew_11 : decode cX4_renew 11 = .ok (.istore_n 3, 1) := by decide +kernel
theorem dX4_renew_12 : decode cX4_renew 12 = .ok (.iload_n 3, 1) := by decide +kernel
theorem dX4_renew_13 : decode cX4_renew 13 = .ok (.bipush 40, 2) := by decide +kernel
theorem dX4_renew_15 : decode cX4_renew 15 = .ok (.if_icmp .ge 16, 3) := by decide +kernel
theorem dX4_renew_18 : decode cX4_renew 18 = .ok (.aload_n 0, 1) := by decide +kernel
theorem dX4_renew_19 : decode cX4_renew 19 = .ok (.getfield 11, 3) := by decide +kernel
theorem dX4_renew_22 : decode cX4_renew 22 = .ok (.iload_n 3, 1) := by decide +kernel
theorem dX4_renew_23 : decode cX4_renew 23 = .ok (.iconst 0, 1) := by decide +kernel
theorem dX4_renew_24 : decode cX4_renew 24 = .ok (.iastore, 1) := by decide +kernel
theorem dX4_renew_25 : decode cX4_renew 25 = .ok (.iinc 3 1, 3) := by decide +kernel
theorem dX4_renew_28 : decode cX4_renew 28 = .ok (.goto (-16), 3) := by decide +kernel
theorem dX4_renew_31 : decode cX4_renew 31 = .ok (.return_, 1) := by decide +kernel
set_option maxRecDepth 20000 in
theorem ggX4_faultOfCells_X4_hasRow : GoodIn wsX4_faultOfCells wsX4_hasRow := goodIn_r _ [6, 7, 12, 13, 14] (by decide +kernel) (by decide +kernel)
set_option maxRecDepth 20000 in
theorem gX4_faultOfCells_X4_hasRow : GoodIn wsX4_faultOfCells (wsV RX4 22 RX4 yX4_hasRow wsX4_hasRow) := goodIn_app (goodIn_of _ (by decide +kernel)) ggX4_faultOfCells_X4_hasRow
set_option maxRecDepth 20000 in
theorem ggX4_faultOfCells_X4_holds : GoodIn wsX4_faultOfCells wsX4_holds := goodIn_r _ [11, 7, 12, 13, 14] (by decide +kernel) (by decide +kernel)
set_option maxRecDepth 20000 in
theorem gX4_faultOfCells_X4_holds : GoodIn wsX4_faultOfCells (wsV RX4 26 RX4 yX4_holds wsX4_holds) := goodIn_app (goodIn_of _ (by decide +kernel)) ggX4_faultOfCells_X4_holds
theorem dX4_faultOfCells_0 : decode cX4_faultOfCells 0 = .ok (.aload_n 0, 1) := by decide +kernel
theorem dX4_faultOfCells_1 : decode cX4_faultOfCells 1 = .ok (.invokevirtual 22, 3) := by decide +kernel
theorem dX4_faultOfCells_4 : decode cX4_faultOfCells 4 = .ok (.ifCond .ne 5, 3) := by decide +kernel
theorem dX4_faultOfCells_7 : decode cX4_faultOfCells 7 = .ok (.iconst 1, 1) := by decide +kernel
theorem dX4_faultOfCells_8 : decode cX4_faultOfCells 8 = .ok (.ireturn, 1) := by decide +kernel
theorem dX4_faultOfCells_9 : decode cX4_faultOfCells 9 = .ok (.aload_n 0, 1) := by decide +kernel
theorem dX4_faultOfCells_10 : decode cX4_faultOfCells 10 = .ok (.getfield 15, 3) := by decide +kernel
theorem dX4_faultOfCells_13 : decode cX4_faultOfCells 13 = .ok (.iload_n 1, 1) := by decide +kernel
theorem dX4_faultOfCells_14 : decode cX4_faultOfCells 14 = .ok (.if_icmp .eq 5, 3) := by decide +kernel
theorem dX4_faultOfCells_17 : decode cX4_faultOfCells 17 = .ok (.iconst 2, 1) := by decide +kernel
theorem dX4_faultOfCells_18 : decode cX4_faultOfCells 18 = .ok (.ireturn, 1) := by decide +kernel
theorem dX4_faultOfCells_19 : decode cX4_faultOfCells 19 = .ok (.iload_n 3, 1) := by decide +kernel
theorem dX4_faultOfCells_20 : decode cX4_faultOfCells 20 = .ok (.ifCond .ge 5, 3) := by decide +kernel
theorem dX4_faultOfCells_23 : decode cX4_faultOfCells 23 = .ok (.iconst 4, 1) := by decide +kernel
theorem dX4_faultOfCells_24 : decode cX4_faultOfCells 24 = .ok (.ireturn, 1) := by decide +kernel
theorem dX4_faultOfCells_25 : decode cX4_faultOfCells 25 = .ok (.aload_n 0, 1) := by decide +kernel
theorem dX4_faultOfCells_26 : decode cX4_faultOfCells 26 = .ok (.iload_n 2, 1) := by decide +kernel
theorem dX4_faultOfCells_27 : decode cX4_faultOfCells 27 = .ok (.iload_n 3, 1) := by decide +kernel
theorem dX4_faultOfCells_28 : decode cX4_faultOfCells 28 = .ok (.invokevirtual 26, 3) := by decide +kernel
theorem dX4_faultOfCells_31 : decode cX4_faultOfCells 31 = .ok (.ifCond .eq 7, 3) := by decide +kernel
theorem dX4_faultOfCells_34 : decode cX4_faultOfCells 34 = .ok (.iconst 0, 1) := by decide +kernel
theorem dX4_faultOfCells_35 : decode cX4_faultOfCells 35 = .ok (.goto 4, 3) := by decide +kernel
theorem dX4_faultOfCells_38 : decode cX4_faultOfCells 38 = .ok (.iconst 3, 1) := by decide +kernel
theorem dX4_faultOfCells_39 : decode cX4_faultOfCells 39 = .ok (.ireturn, 1) := by decide +kernel
theorem dX4_holds_0 : decode cX4_holds 0 = .ok (.iload_n 1, 1) := by decide +kernel
theorem dX4_holds_1 : decode cX4_holds 1 = .ok (.ifCond .lt 29, 3) := by decide +kernel
theorem dX4_holds_4 : decode cX4_holds 4 = .ok (.iload_n 2, 1) := by decide +kernel
theorem dX4_holds_5 : decode cX4_holds 5 = .ok (.ifCond .lt 25, 3) := by decide +kernel
theorem dX4_holds_8 : decode cX4_holds 8 = .ok (.iload_n 1, 1) := by decide +kernel
theorem dX4_holds_9 : decode cX4_holds 9 = .ok (.aload_n 0, 1) := by decide +kernel
theorem dX4_holds_10 : decode cX4_holds 10 = .ok (.getfield 19, 3) := by decide +kernel
theorem dX4_holds_13 : decode cX4_holds 13 = .ok (.if_icmp .gt 17, 3) := by decide +kernel
theorem dX4_holds_16 : decode cX4_holds 16 = .ok (.iload_n 2, 1) := by decide +kernel
theorem dX4_holds_17 : decode cX4_holds 17 = .ok (.aload_n 0, 1) := by decide +kernel
theorem dX4_holds_18 : decode cX4_holds 18 = .ok (.getfield 19, 3) := by decide +kernel
theorem dX4_holds_21 : decode cX4_holds 21 = .ok (.iload_n 1, 1) := by decide +kernel
theorem dX4_holds_22 : decode cX4_holds 22 = .ok (.isub, 1) := by decide +kernel
theorem dX4_holds_23 : decode cX4_holds 23 = .ok (.if_icmp .gt 7, 3) := by decide +kernel
theorem dX4_holds_26 : decode cX4_holds 26 = .ok (.iconst 1, 1) := by decide +kernel
theorem dX4_holds_27 : decode cX4_holds 27 = .ok (.goto 4, 3) := by decide +kernel
theorem dX4_holds_30 : decode cX4_holds 30 = .ok (.iconst 0, 1) := by decide +kernel
theorem dX4_holds_31 : decode cX4_holds 31 = .ok (.ireturn, 1) := by decide +kernel
theorem dX4_read_0 : decode cX4_read 0 = .ok (.iload_n 1, 1) := by decide +kernel
theorem dX4_read_1 : decode cX4_read 1 = .ok (.ifCond .lt 18, 3) := by decide +kernel
theorem dX4_read_4 : decode cX4_read 4 = .ok (.iload_n 1, 1) := by decide +kernel
theorem dX4_read_5 : decode cX4_read 5 = .ok (.bipush 40, 2) := by decide +kernel
theorem dX4_read_7 : decode cX4_read 7 = .ok (.if_icmp .ge 12, 3) := by decide +kernel
theorem dX4_read_10 : decode cX4_read 10 = .ok (.aload_n 0, 1) := by decide +kernel
theorem dX4_read_11 : decode cX4_read 11 = .ok (.getfield 11, 3) := by decide +kernel
theorem dX4_read_14 : decode cX4_read 14 = .ok (.iload_n 1, 1) := by decide +kernel
theorem dX4_read_15 : decode cX4_read 15 = .ok (.iaload, 1) := by decide +kernel
theorem dX4_read_16 : decode cX4_read 16 = .ok (.goto 4, 3) := by decide +kernel
theorem dX4_read_19 : decode cX4_read 19 = .ok (.iconst 0, 1) := by decide +kernel
theorem dX4_read_20 : decode cX4_read 20 = .ok (.ireturn, 1) := by decide +kernel
theorem dX4_write_0 : decode cX4_write 0 = .ok (.iload_n 1, 1) := by decide +kernel
theorem dX4_write_1 : decode cX4_write 1 = .ok (.ifCond .lt 9, 3) := by decide +kernel
theorem dX4_write_4 : decode cX4_write 4 = .ok (.iload_n 1, 1) := by decide +kernel
theorem dX4_write_5 : decode cX4_write 5 = .ok (.bipush 40, 2) := by decide +kernel
theorem dX4_write_7 : decode cX4_write 7 = .ok (.if_icmp .lt 4, 3) := by decide +kernel
theorem dX4_write_10 : decode cX4_write 10 = .ok (.return_, 1) := by decide +kernel
theorem dX4_write_11 : decode cX4_write 11 = .ok (.aload_n 0, 1) := by decide +kernel
theorem dX4_write_12 : decode cX4_write 12 = .ok (.getfield 15, 3) := by decide +kernel
theorem dX4_write_15 : decode cX4_write 15 = .ok (.ifCond .ne 14, 3) := by decide +kernel
theorem dX4_write_18 : decode cX4_write 18 = .ok (.aload_n 0, 1) := by decide +kernel
theorem dX4_write_19 : decode cX4_write 19 = .ok (.getfield 11, 3) := by decide +kernel
theorem dX4_write_22 : decode cX4_write 22 = .ok (.iload_n 1, 1) := by decide +kernel
theorem dX4_write_23 : decode cX4_write 23 = .ok (.iload_n 2, 1) := by decide +kernel
theorem dX4_write_24 : decode cX4_write 24 = .ok (.i2b, 1) := by decide +kernel
theorem dX4_write_25 : decode cX4_write 25 = .ok (.iastore, 1) := by decide +kernel
theorem dX4_write_26 : decode cX4_write 26 = .ok (.goto 29, 3) := by decide +kernel
theorem dX4_write_29 : decode cX4_write 29 = .ok (.aload_n 0, 1) := by decide +kernel
theorem dX4_write_30 : decode cX4_write 30 = .ok (.getfield 15, 3) := by decide +kernel
theorem dX4_write_33 : decode cX4_write 33 = .ok (.iconst 1, 1) := by decide +kernel
theorem dX4_write_34 : decode cX4_write 34 = .ok (.if_icmp .ne 14, 3) := by decide +kernel
theorem dX4_write_37 : decode cX4_write 37 = .ok (.aload_n 0, 1) := by decide +kernel
theorem dX4_write_38 : decode cX4_write 38 = .ok (.getfield 11, 3) := by decide +kernel
theorem dX4_write_41 : decode cX4_write 41 = .ok (.iload_n 1, 1) := by decide +kernel
theorem dX4_write_42 : decode cX4_write 42 = .ok (.iload_n 2, 1) := by decide +kernel
theorem dX4_write_43 : decode cX4_write 43 = .ok (.i2s, 1) := by decide +kernel
theorem dX4_write_44 : decode cX4_write 44 = .ok (.iastore, 1) := by decide +kernel
theorem dX4_write_45 : decode cX4_write 45 = .ok (.goto 10, 3) := by decide +kernel
theorem dX4_write_48 : decode cX4_write 48 = .ok (.aload_n 0, 1) := by decide +kernel
theorem dX4_write_49 : decode cX4_write 49 = .ok (.getfield 11, 3) := by decide +kernel
theorem dX4_write_52 : decode cX4_write 52 = .ok (.iload_n 1, 1) := by decide +kernel
theorem dX4_write_53 : decode cX4_write 53 = .ok (.iload_n 2, 1) := by decide +kernel
theorem dX4_write_54 : decode cX4_write 54 = .ok (.iastore, 1) := by decide +kernel
theorem dX4_write_55 : decode cX4_write 55 = .ok (.return_, 1) := by decide +kernel
theorem dX5_init_0 : decode cX5_init 0 = .ok (.aload_n 0, 1) := by decide +kernel
theorem dX5_init_1 : decode cX5_init 1 = .ok (.invokespecial 3, 3) := by decide +kernel
theorem dX5_init_4 : decode cX5_init 4 = .ok (.aload_n 0, 1) := by decide +kernel
theorem dX5_init_5 : decode cX5_init 5 = .ok (.bipush 10, 2) := by decide +kernel
theorem dX5_init_7 : decode cX5_init 7 = .ok (.newarray .int, 2) := by decide +kernel
theorem dX5_init_9 : decode cX5_init 9 = .ok (.putfield 9, 3) := by decide +kernel
theorem dX5_init_12 : decode cX5_init 12 = .ok (.aload_n 0, 1) := by decide +kernel
theorem dX5_init_13 : decode cX5_init 13 = .ok (.bipush 10, 2) := by decide +kernel
theorem dX5_init_15 : decode cX5_init 15 = .ok (.newarray .int, 2) := by decide +kernel
theorem dX5_init_17 : decode cX5_init 17 = .ok (.putfield 13, 3) := by decide +kernel
theorem dX5_init_20 : decode cX5_init 20 = .ok (.aload_n 0, 1) := by decide +kernel
theorem dX5_init_21 : decode cX5_init 21 = .ok (.bipush 10, 2) := by decide +kernel
theorem dX5_init_23 : decode cX5_init 23 = .ok (.newarray .int, 2) := by decide +kernel
theorem dX5_init_25 : decode cX5_init 25 = .ok (.putfield 16, 3) := by decide +kernel
theorem dX5_init_28 : decode cX5_init 28 = .ok (.aload_n 0, 1) := by decide +kernel
theorem dX5_init_29 : decode cX5_init 29 = .ok (.bipush 10, 2) := by decide +kernel
theorem dX5_init_31 : decode cX5_init 31 = .ok (.newarray .int, 2) := by decide +kernel
theorem dX5_init_33 : decode cX5_init 33 = .ok (.putfield 19, 3) := by decide +kernel
theorem dX5_init_36 : decode cX5_init 36 = .ok (.aload_n 0, 1) := by decide +kernel
theorem dX5_init_37 : decode cX5_init 37 = .ok (.iconst 0, 1) := by decide +kernel
theorem dX5_init_38 : decode cX5_init 38 = .ok (.putfield 22, 3) := by decide +kernel
theorem dX5_init_41 : decode cX5_init 41 = .ok (.return_, 1) := by decide +kernel
theorem dX5_isShot_0 : decode cX5_isShot 0 = .ok (.iload_n 1, 1) := by decide +kernel
theorem dX5_isShot_1 : decode cX5_isShot 1 = .ok (.ifCond .lt 15, 3) := by decide +kernel
theorem dX5_isShot_4 : decode cX5_isShot 4 = .ok (.iload_n 1, 1) := by decide +kernel
theorem dX5_isShot_5 : decode cX5_isShot 5 = .ok (.aload_n 0, 1) := by decide +kernel
theorem dX5_isShot_6 : decode cX5_isShot 6 = .ok (.getfield 22, 3) := by decide +kernel
theorem dX5_isShot_9 : decode cX5_isShot 9 = .ok (.if_icmp .ge 7, 3) := by decide +kernel
theorem dX5_isShot_12 : decode cX5_isShot 12 = .ok (.iconst 1, 1) := by decide +kernel
theorem dX5_isShot_13 : decode cX5_isShot 13 = .ok (.goto 4, 3) := by decide +kernel
theorem dX5_isShot_16 : decode cX5_isShot 16 = .ok (.iconst 0, 1) := by decide +kernel
theorem dX5_isShot_17 : decode cX5_isShot 17 = .ok (.ireturn, 1) := by decide +kernel
theorem dX5_write_0 : decode cX5_write 0 = .ok (.iload_n 1, 1) := by decide +kernel
theorem dX5_write_1 : decode cX5_write 1 = .ok (.ifCond .lt 9, 3) := by decide +kernel
theorem dX5_write_4 : decode cX5_write 4 = .ok (.iload_n 1, 1) := by decide +kernel
theorem dX5_write_5 : decode cX5_write 5 = .ok (.bipush 10, 2) := by decide +kernel
theorem dX5_write_7 : decode cX5_write 7 = .ok (.if_icmp .lt 4, 3) := by decide +kernel
theorem dX5_write_10 : decode cX5_write 10 = .ok (.return_, 1) := by decide +kernel
theorem dX5_write_11 : decode cX5_write 11 = .ok (.aload_n 0, 1) := by decide +kernel
theorem dX5_write_12 : decode cX5_write 12 = .ok (.getfield 9, 3) := by decide +kernel
theorem dX5_write_15 : decode cX5_write 15 = .ok (.iload_n 1, 1) := by decide +kernel
theorem dX5_write_16 : decode cX5_write 16 = .ok (.iload_n 2, 1) := by decide +kernel
theorem dX5_write_17 : decode cX5_write 17 = .ok (.iastore, 1) := by decide +kernel
theorem dX5_write_18 : decode cX5_write 18 = .ok (.aload_n 0, 1) := by decide +kernel
theorem dX5_write_19 : decode cX5_write 19 = .ok (.getfield 13, 3) := by decide +kernel
theorem dX5_write_22 : decode cX5_write 22 = .ok (.iload_n 1, 1) := by decide +kernel
theorem dX5_write_23 : decode cX5_write 23 = .ok (.iload_n 3, 1) := by decide +kernel
theorem dX5_write_24 : decode cX5_write 24 = .ok (.iastore, 1) := by decide +kernel
theorem dX5_write_25 : decode cX5_write 25 = .ok (.aload_n 0, 1) := by decide +kernel
theorem dX5_write_26 : decode cX5_write 26 = .ok (.getfield 16, 3) := by decide +kernel
theorem dX5_write_29 : decode cX5_write 29 = .ok (.iload_n 1, 1) := by decide +kernel
theorem dX5_write_30 : decode cX5_write 30 = .ok (.iload 4, 2) := by decide +kernel
theorem dX5_write_32 : decode cX5_write 32 = .ok (.iastore, 1) := by decide +kernel
theorem dX5_write_33 : decode cX5_write 33 = .ok (.aload_n 0, 1) := by decide +kernel
theorem dX5_write_34 : decode cX5_write 34 = .ok (.getfield 19, 3) := by decide +kernel
theorem dX5_write_37 : decode cX5_write 37 = .ok (.iload_n 1, 1) := by decide +kernel
theorem dX5_write_38 : decode cX5_write 38 = .ok (.iload 5, 2) := by decide +kernel
theorem dX5_write_40 : decode cX5_write 40 = .ok (.iastore, 1) := by decide +kernel
theorem dX5_write_41 : decode cX5_write 41 = .ok (.return_, 1) := by decide +kernel
theorem dX5_reachOf_0 : decode cX5_reachOf 0 = .ok (.aload_n 0, 1) := by decide +kernel
theorem dX5_reachOf_1 : decode cX5_reachOf 1 = .ok (.getfield 9, 3) := by decide +kernel
theorem dX5_reachOf_4 : decode cX5_reachOf 4 = .ok (.iload_n 1, 1) := by decide +kernel
theorem dX5_reachOf_5 : decode cX5_reachOf 5 = .ok (.iaload, 1) := by decide +kernel
theorem dX5_reachOf_6 : decode cX5_reachOf 6 = .ok (.ifCond .ne 12, 3) := by decide +kernel
theorem dX5_reachOf_9 : decode cX5_reachOf 9 = .ok (.aload_n 0, 1) := by decide +kernel
theorem dX5_reachOf_10 : decode cX5_reachOf 10 = .ok (.getfield 19, 3) := by decide +kernel
theorem dX5_reachOf_13 : decode cX5_reachOf 13 = .ok (.iload_n 1, 1) := by decide +kernel
theorem dX5_reachOf_14 : decode cX5_reachOf 14 = .ok (.iaload, 1) := by decide +kernel
theorem dX5_reachOf_15 : decode cX5_reachOf 15 = .ok (.goto 11, 3) := by decide +kernel
theorem dX5_reachOf_18 : decode cX5_reachOf 18 = .ok (.iconst 2, 1) := by decide +kernel
theorem dX5_reachOf_19 : decode cX5_reachOf 19 = .ok (.aload_n 0, 1) := by decide +kernel
theorem dX5_reachOf_20 : decode cX5_reachOf 20 = .ok (.getfield 19, 3) := by decide +kernel
theorem dX5_reachOf_23 : decode cX5_reachOf 23 = .ok (.iload_n 1, 1) := by decide +kernel
theorem dX5_reachOf_24 : decode cX5_reachOf 24 = .ok (.iaload, 1) := by decide +kernel
theorem dX5_reachOf_25 : decode cX5_reachOf 25 = .ok (.imul, 1) := by decide +kernel
theorem dX5_reachOf_26 : decode cX5_reachOf 26 = .ok (.ireturn, 1) := by decide +kernel
theorem dX6_init_0 : decode cX6_init 0 = .ok (.aload_n 0, 1) := by decide +kernel
theorem dX6_init_1 : decode cX6_init 1 = .ok (.invokespecial 3, 3) := by decide +kernel
theorem dX6_init_4 : decode cX6_init 4 = .ok (.aload_n 0, 1) := by decide +kernel
theorem dX6_init_5 : decode cX6_init 5 = .ok (.bipush 6, 2) := by decide +kernel
theorem dX6_init_7 : decode cX6_init 7 = .ok (.newarray .int, 2) := by decide +kernel
theorem dX6_init_9 : decode cX6_init 9 = .ok (.putfield 11, 3) := by decide +kernel
theorem dX6_init_12 : decode cX6_init 12 = .ok (.aload_n 0, 1) := by decide +kernel
theorem dX6_init_13 : decode cX6_init 13 = .ok (.bipush 6, 2) := by decide +kernel
theorem dX6_init_15 : decode cX6_init 15 = .ok (.newarray .int, 2) := by decide +kernel
theorem dX6_init_17 : decode cX6_init 17 = .ok (.putfield 15, 3) := by decide +kernel
theorem dX6_init_20 : decode cX6_init 20 = .ok (.aload_n 0, 1) := by decide +kernel
theorem dX6_init_21 : decode cX6_init 21 = .ok (.bipush 6, 2) := by decide +kernel
theorem dX6_init_23 : decode cX6_init 23 = .ok (.newarray .int, 2) := by decide +kernel
theorem dX6_init_25 : decode cX6_init 25 = .ok (.putfield 18, 3) := by decide +kernel
theorem dX6_init_28 : decode cX6_init 28 = .ok (.aload_n 0, 1) := by decide +kernel
theorem dX6_init_29 : decode cX6_init 29 = .ok (.iconst 0, 1) := by decide +kernel
theorem dX6_init_30 : decode cX6_init 30 = .ok (.putfield 21, 3) := by decide +kernel
theorem dX6_init_33 : decode cX6_init 33 = .ok (.return_, 1) := by decide +kernel
theorem dX6_isCloud_0 : decode cX6_isCloud 0 = .ok (.iload_n 1, 1) := by decide +kernel
theorem dX6_isCloud_1 : decode cX6_isCloud 1 = .ok (.ifCond .lt 15, 3) := by decide +kernel
theorem dX6_isCloud_4 : decode cX6_isCloud 4 = .ok (.iload_n 1, 1) := by decide +kernel
theorem dX6_isCloud_5 : decode cX6_isCloud 5 = .ok (.aload_n 0, 1) := by decide +kernel
theorem dX6_isCloud_6 : decode cX6_isCloud 6 = .ok (.getfield 21, 3) := by decide +kernel
theorem dX6_isCloud_9 : decode cX6_isCloud 9 = .ok (.if_icmp .ge 7, 3) := by decide +kernel
theorem dX6_isCloud_12 : decode cX6_isCloud 12 = .ok (.iconst 1, 1) := by decide +kernel
theorem dX6_isCloud_13 : decode cX6_isCloud 13 = .ok (.goto 4, 3) := by decide +kernel
theorem dX6_isCloud_16 : decode cX6_isCloud 16 = .ok (.iconst 0, 1) := by decide +kernel
theorem dX6_isCloud_17 : decode cX6_isCloud 17 = .ok (.ireturn, 1) := by decide +kernel
theorem dX6_add_0 : decode cX6_add 0 = .ok (.aload_n 0, 1) := by decide +kernel
theorem dX6_add_1 : decode cX6_add 1 = .ok (.getfield 21, 3) := by decide +kernel
theorem dX6_add_4 : decode cX6_add 4 = .ok (.istore 4, 2) := by decide +kernel
theorem dX6_add_6 : decode cX6_add 6 = .ok (.iload 4, 2) := by decide +kernel
theorem dX6_add_8 : decode cX6_add 8 = .ok (.bipush 6, 2) := by decide +kernel
theorem dX6_add_10 : decode cX6_add 10 = .ok (.if_icmp .lt 6, 3) := by decide +kernel
theorem dX6_add_13 : decode cX6_add 13 = .ok (.bipush (-4), 2) := by decide +kernel
theorem dX6_add_15 : decode cX6_add 15 = .ok (.ireturn, 1) := by decide +kernel
theorem dX6_add_16 : decode cX6_add 16 = .ok (.aload_n 0, 1) := by decide +kernel
theorem dX6_add_17 : decode cX6_add 17 = .ok (.getfield 11, 3) := by decide +kernel
theorem dX6_add_20 : decode cX6_add 20 = .ok (.iload 4, 2) := by decide +kernel
theorem dX6_add_22 : decode cX6_add 22 = .ok (.iload_n 1, 1) := by decide +kernel
theorem dX6_add_23 : decode cX6_add 23 = .ok (.iastore, 1) := by decide +kernel
theorem dX6_add_24 : decode cX6_add 24 = .ok (.aload_n 0, 1) := by decide +kernel
theorem dX6_add_25 : decode cX6_add 25 = .ok (.getfield 15, 3) := by decide +kernel
theorem dX6_add_28 : decode cX6_add 28 = .ok (.iload 4, 2) := by decide +kernel
theorem dX6_add_30 : decode cX6_add 30 = .ok (.iload_n 2, 1) := by decide +kernel
theorem dX6_add_31 : decode cX6_add 31 = .ok (.iastore, 1) := by decide +kernel
theorem dX6_add_32 : decode cX6_add 32 = .ok (.aload_n 0, 1) := by decide +kernel
theorem dX6_add_33 : decode cX6_add 33 = .ok (.getfield 18, 3) := by decide +kernel
theorem dX6_add_36 : decode cX6_add 36 = .ok (.iload 4, 2) := by decide +kernel
theorem dX6_add_38 : decode cX6_add 38 = .ok (.iload_n 3, 1) := by decide +kernel
theorem dX6_add_39 : decode cX6_add 39 = .ok (.iastore, 1) := by decide +kernel
theorem dX6_add_40 : decode cX6_add 40 = .ok (.aload_n 0, 1) := by decide +kernel
theorem dX6_add_41 : decode cX6_add 41 = .ok (.iload 4, 2) := by decide +kernel
theorem dX6_add_43 : decode cX6_add 43 = .ok (.iconst 1, 1) := by decide +kernel
theorem dX6_add_44 : decode cX6_add 44 = .ok (.iadd, 1) := by decide +kernel
theorem dX6_add_45 : decode cX6_add 45 = .ok (.putfield 21, 3) := by decide +kernel
theorem dX6_add_48 : decode cX6_add 48 = .ok (.iload 4, 2) := by decide +kernel
theorem dX6_add_50 : decode cX6_add 50 = .ok (.ireturn, 1) := by decide +kernel
theorem dX6_placeOf_0 : decode cX6_placeOf 0 = .ok (.aload_n 0, 1) := by decide +kernel
theorem dX6_placeOf_1 : decode cX6_placeOf 1 = .ok (.getfield 11, 3) := by decide +kernel
theorem dX6_placeOf_4 : decode cX6_placeOf 4 = .ok (.iload_n 1, 1) := by decide +kernel
theorem dX6_placeOf_5 : decode cX6_placeOf 5 = .ok (.iaload, 1) := by decide +kernel
theorem dX6_placeOf_6 : decode cX6_placeOf 6 = .ok (.iload_n 2, 1) := by decide +kernel
theorem dX6_placeOf_7 : decode cX6_placeOf 7 = .ok (.iload_n 3, 1) := by decide +kernel
theorem dX6_placeOf_8 : decode cX6_placeOf 8 = .ok (.imul, 1) := by decide +kernel
theorem dX6_placeOf_9 : decode cX6_placeOf 9 = .ok (.iadd, 1) := by decide +kernel
theorem dX6_placeOf_10 : decode cX6_placeOf 10 = .ok (.ireturn, 1) := by decide +kernel
set_option maxRecDepth 20000 in
theorem ggX7_init_X4_init : GoodIn wsX7_init wsX4_init := goodIn_r _ [36, 37, 2, 3, 38, 39, 40, 41, 120, 121, 122] (by decide +kernel) (by decide +kernel)
set_option maxRecDepth 20000 in
theorem gX7_init_X4_init : GoodIn wsX7_init (wsX4_init) := ggX7_init_X4_init
set_option maxRecDepth 20000 in
theorem ggX7_init_X3_init : GoodIn wsX7_init wsX3_init := goodIn_r _ [44, 45, 2, 3, 38, 46, 47, 48, 49, 50, 51, 52, 123, 124, 125, 126, 127, 128, 129] (by decide +kernel) (by decide +kernel)
set_option maxRecDepth 20000 in
theorem gX7_init_X3_init : GoodIn wsX7_init (wsX3_init) := ggX7_init_X3_init
set_option maxRecDepth 20000 in
theorem ggX7_init_X6_init : GoodIn wsX7_init wsX6_init := goodIn_r _ [55, 56, 2, 3, 38, 57, 58, 59, 60, 130, 131, 132, 133] (by decide +kernel) (by decide +kernel)
set_option maxRecDepth 20000 in
theorem gX7_init_X6_init : GoodIn wsX7_init (wsX6_init) := ggX7_init_X6_init
set_option maxRecDepth 20000 in
theorem ggX7_init_X5_init : GoodIn wsX7_init wsX5_init := goodIn_r _ [63, 64, 2, 3, 38, 65, 66, 67, 68, 69, 134, 135, 136, 137, 138] (by decide +kernel) (by decide +kernel)
set_option maxRecDepth 20000 in
theorem gX7_init_X5_init : GoodIn wsX7_init (wsX5_init) := ggX7_init_X5_init
set_option maxRecDepth 20000 in
theorem ggX7_init_X1_init : GoodIn wsX7_init wsX1_init := goodIn_r _ [72, 73, 2, 3, 38, 74, 75, 76, 77, 78, 79, 80, 81, 139, 140, 141, 142, 143, 144, 145, 146] (by decide +kernel) (by decide +kernel)
set_option maxRecDepth 20000 in
theorem gX7_init_X1_init : GoodIn wsX7_init (wsX1_init) := ggX7_init_X1_init
set_option maxRecDepth 20000 in
theorem ggX7_init_X0_init : GoodIn wsX7_init wsX0_init := goodIn_r _ [84, 85, 2, 3, 86, 87, 38, 88, 89, 90, 91, 92, 147, 148, 149, 150, 151, 152, 153] (by decide +kernel) (by decide +kernel)
set_option maxRecDepth 20000 in
theorem gX7_init_X0_init : GoodIn wsX7_init (wsX0_init) := ggX7_init_X0_init
set_option maxRecDepth 20000 in
theorem ggX7_init_X2_init : GoodIn wsX7_init wsX2_init := goodIn_r _ [95, 96, 2, 3, 97, 98, 38, 99, 100, 101, 102, 103, 104, 105, 106, 107, 108, 109, 110, 154, 155, 156, 157, 158, 159, 160, 161, 162, 163, 164, 165, 166, 167] (by decide +kernel) (by decide +kernel)
set_option maxRecDepth 20000 in
theorem gX7_init_X2_init : GoodIn wsX7_init (wsX2_init) := ggX7_init_X2_init
