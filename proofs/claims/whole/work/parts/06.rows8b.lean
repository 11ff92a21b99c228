set_option maxRecDepth 20000 in
theorem gX8_broughtBy_X8_goDay : GoodIn wsX8_broughtBy (wsV RX8 200 RX8 yX8_goDay wsX8_goDay) := goodIn_app (goodIn_of _ (by decide +kernel)) ggX8_broughtBy_X8_goDay
theorem dX8_broughtBy_0 : decode cX8_broughtBy 0 = .ok (.aload_n 0, 1) := by decide +kernel
theorem dX8_broughtBy_1 : decode cX8_broughtBy 1 = .ok (.invokevirtual 206, 3) := by decide +kernel
theorem dX8_broughtBy_4 : decode cX8_broughtBy 4 = .ok (.aload_n 0, 1) := by decide +kernel
theorem dX8_broughtBy_5 : decode cX8_broughtBy 5 = .ok (.iload_n 2, 1) := by decide +kernel
theorem dX8_broughtBy_6 : decode cX8_broughtBy 6 = .ok (.invokevirtual 212, 3) := by decide +kernel
theorem dX8_broughtBy_9 : decode cX8_broughtBy 9 = .ok (.istore_n 3, 1) := by decide +kernel
theorem dX8_broughtBy_10 : decode cX8_broughtBy 10 = .ok (.aload_n 0, 1) := by decide +kernel
theorem dX8_broughtBy_11 : decode cX8_broughtBy 11 = .ok (.aload_n 0, 1) := by decide +kernel
theorem dX8_broughtBy_12 : decode cX8_broughtBy 12 = .ok (.getfield 143, 3) := by decide +kernel
theorem dX8_broughtBy_15 : decode cX8_broughtBy 15 = .ok (.aload_n 0, 1) := by decide +kernel
theorem dX8_broughtBy_16 : decode cX8_broughtBy 16 = .ok (.getfield 140, 3) := by decide +kernel
theorem dX8_broughtBy_19 : decode cX8_broughtBy 19 = .ok (.invokestatic 197, 3) := by decide +kernel
theorem dX8_broughtBy_22 : decode cX8_broughtBy 22 = .ok (.iconst 1, 1) := by decide +kernel
theorem dX8_broughtBy_23 : decode cX8_broughtBy 23 = .ok (.iload_n 1, 1) := by decide +kernel
theorem dX8_broughtBy_24 : decode cX8_broughtBy 24 = .ok (.ishl, 1) := by decide +kernel
theorem dX8_broughtBy_25 : decode cX8_broughtBy 25 = .ok (.isub, 1) := by decide +kernel
theorem dX8_broughtBy_26 : decode cX8_broughtBy 26 = .ok (.invokevirtual 200, 3) := by decide +kernel
theorem dX8_broughtBy_29 : decode cX8_broughtBy 29 = .ok (.iload_n 3, 1) := by decide +kernel
theorem dX8_broughtBy_30 : decode cX8_broughtBy 30 = .ok (.aload_n 0, 1) := by decide +kernel
theorem dX8_broughtBy_31 : decode cX8_broughtBy 31 = .ok (.iload_n 2, 1) := by decide +kernel
theorem dX8_broughtBy_32 : decode cX8_broughtBy 32 = .ok (.invokevirtual 212, 3) := by decide +kernel
theorem dX8_broughtBy_35 : decode cX8_broughtBy 35 = .ok (.isub, 1) := by decide +kernel
theorem dX8_broughtBy_36 : decode cX8_broughtBy 36 = .ok (.ireturn, 1) := by decide +kernel
set_option maxRecDepth 20000 in
theorem ggX8_brought_X8_isShot : GoodIn wsX8_brought wsX8_isShot := goodIn_r _ [6, 7, 81, 82, 83, 84, 85, 86, 87, 88, 89, 90, 91, 92, 93, 94, 95, 96, 97, 98, 99, 100, 101, 102, 103, 104, 105, 106, 107, 108, 109, 110, 111, 112, 113, 114, 115, 116, 117, 118, 119, 120, 121, 122, 123, 124] (by decide +kernel) (by decide +kernel)
set_option maxRecDepth 20000 in
theorem gX8_brought_X8_isShot : GoodIn wsX8_brought (wsV RX8 174 RX8 yX8_isShot wsX8_isShot) := goodIn_app (goodIn_of _ (by decide +kernel)) ggX8_brought_X8_isShot
set_option maxRecDepth 20000 in
theorem ggX8_brought_X8_isClub : GoodIn wsX8_brought wsX8_isClub := goodIn_r _ [10, 11, 12, 5, 13] (by decide +kernel) (by decide +kernel)
set_option maxRecDepth 20000 in
theorem gX8_brought_X8_isClub : GoodIn wsX8_brought (va_wsS RX8 209 yX8_isClub wsX8_isClub) := goodIn_app (goodIn_of _ (by decide +kernel)) ggX8_brought_X8_isClub
set_option maxRecDepth 20000 in
theorem ggX8_brought_X8_broughtBy : GoodIn wsX8_brought wsX8_broughtBy := goodIn_r _ [17, 18, 7, 19, 20, 21, 5, 22, 23, 24, 25, 26, 27, 28, 29, 30, 31, 32, 33, 34, 35, 36, 37, 38, 39, 40, 41, 42, 43, 44, 45, 46, 47, 48, 49, 50, 51, 52, 53, 54, 55, 56, 57, 58, 59, 60, 61, 62, 63, 64, 65, 66, 67, 68, 69, 70, 71, 72, 73, 74, 75, 76, 77, 78, 79, 80, 81, 82, 83, 84, 85, 86, 87, 88, 89, 90, 91, 92, 93, 94, 95, 96, 97, 98, 99, 100, 101, 102, 103, 104, 105, 106, 107, 108, 109, 110, 111, 112, 113, 114, 115, 116, 117, 118, 119, 120, 121, 122, 123, 124] (by decide +kernel) (by decide +kernel)
set_option maxRecDepth 20000 in
theorem gX8_brought_X8_broughtBy : GoodIn wsX8_brought (wsV RX8 215 RX8 yX8_broughtBy wsX8_broughtBy) := goodIn_app (goodIn_of _ (by decide +kernel)) ggX8_brought_X8_broughtBy
theorem dX8_brought_0 : decode cX8_brought 0 = .ok (.aload_n 0, 1) := by decide +kernel
theorem dX8_brought_1 : decode cX8_brought 1 = .ok (.iload_n 1, 1) := by decide +kernel
theorem dX8_brought_2 : decode cX8_brought 2 = .ok (.invokevirtual 174, 3) := by decide +kernel
theorem dX8_brought_5 : decode cX8_brought 5 = .ok (.ifCond .eq 25, 3) := by decide +kernel
theorem dX8_brought_8 : decode cX8_brought 8 = .ok (.iload_n 2, 1) := by decide +kernel
theorem dX8_brought_9 : decode cX8_brought 9 = .ok (.iconst (-1), 1) := by decide +kernel
theorem dX8_brought_10 : decode cX8_brought 10 = .ok (.if_icmp .eq 10, 3) := by decide +kernel
theorem dX8_brought_13 : decode cX8_brought 13 = .ok (.iload_n 2, 1) := by decide +kernel
theorem dX8_brought_14 : decode cX8_brought 14 = .ok (.invokestatic 209, 3) := by decide +kernel
theorem dX8_brought_17 : decode cX8_brought 17 = .ok (.ifCond .eq 13, 3) := by decide +kernel
theorem dX8_brought_20 : decode cX8_brought 20 = .ok (.aload_n 0, 1) := by decide +kernel
theorem dX8_brought_21 : decode cX8_brought 21 = .ok (.iload_n 1, 1) := by decide +kernel
theorem dX8_brought_22 : decode cX8_brought 22 = .ok (.iload_n 2, 1) := by decide +kernel
theorem dX8_brought_23 : decode cX8_brought 23 = .ok (.invokevirtual 215, 3) := by decide +kernel
theorem dX8_brought_26 : decode cX8_brought 26 = .ok (.i2l, 1) := by decide +kernel
theorem dX8_brought_27 : decode cX8_brought 27 = .ok (.goto 6, 3) := by decide +kernel
theorem dX8_brought_30 : decode cX8_brought 30 = .ok (.ldc2_w 104, 3) := by decide +kernel
theorem dX8_brought_33 : decode cX8_brought 33 = .ok (.lreturn, 1) := by decide +kernel
set_option maxRecDepth 20000 in
theorem ggX8_due_X8_isShot : GoodIn wsX8_due wsX8_isShot := goodIn_r _ [5, 6, 80, 81, 82, 83, 84, 85, 86, 87, 88, 89, 90, 91, 92, 93, 94, 95, 96, 97, 98, 99, 100, 101, 102, 103, 104, 105, 106, 107, 108, 109, 110, 111, 112, 113, 114, 115, 116, 117, 118, 119, 120, 121, 122, 123] (by decide +kernel) (by decide +kernel)
set_option maxRecDepth 20000 in
theorem gX8_due_X8_isShot : GoodIn wsX8_due (wsV RX8 174 RX8 yX8_isShot wsX8_isShot) := goodIn_app (goodIn_of _ (by decide +kernel)) ggX8_due_X8_isShot
set_option maxRecDepth 20000 in
theorem ggX8_due_X8_isClub : GoodIn wsX8_due wsX8_isClub := goodIn_r _ [9, 10, 11, 4, 12] (by decide +kernel) (by decide +kernel)
set_option maxRecDepth 20000 in
theorem gX8_due_X8_isClub : GoodIn wsX8_due (va_wsS RX8 209 yX8_isClub wsX8_isClub) := goodIn_app (goodIn_of _ (by decide +kernel)) ggX8_due_X8_isClub
set_option maxRecDepth 20000 in
theorem ggX8_due_X8_broughtBy : GoodIn wsX8_due wsX8_broughtBy := goodIn_r _ [16, 17, 6, 18, 19, 20, 4, 21, 22, 23, 24, 25, 26, 27, 28, 29, 30, 31, 32, 33, 34, 35, 36, 37, 38, 39, 40, 41, 42, 43, 44, 45, 46, 47, 48, 49, 50, 51, 52, 53, 54, 55, 56, 57, 58, 59, 60, 61, 62, 63, 64, 65, 66, 67, 68, 69, 70, 71, 72, 73, 74, 75, 76, 77, 78, 79, 80, 81, 82, 83, 84, 85, 86, 87, 88, 89, 90, 91, 92, 93, 94, 95, 96, 97, 98, 99, 100, 101, 102, 103, 104, 105, 106, 107, 108, 109, 110, 111, 112, 113, 114, 115, 116, 117, 118, 119, 120, 121, 122, 123] (by decide +kernel) (by decide +kernel)
set_option maxRecDepth 20000 in
theorem gX8_due_X8_broughtBy : GoodIn wsX8_due (wsV RX8 215 RX8 yX8_broughtBy wsX8_broughtBy) := goodIn_app (goodIn_of _ (by decide +kernel)) ggX8_due_X8_broughtBy
theorem dX8_due_0 : decode cX8_due 0 = .ok (.aload_n 0, 1) := by decide +kernel
theorem dX8_due_1 : decode cX8_due 1 = .ok (.iload_n 1, 1) := by decide +kernel
theorem dX8_due_2 : decode cX8_due 2 = .ok (.invokevirtual 174, 3) := by decide +kernel
theorem dX8_due_5 : decode cX8_due 5 = .ok (.ifCond .eq 10, 3) := by decide +kernel
theorem dX8_due_8 : decode cX8_due 8 = .ok (.iload_n 2, 1) := by decide +kernel
theorem dX8_due_9 : decode cX8_due 9 = .ok (.invokestatic 209, 3) := by decide +kernel
theorem dX8_due_12 : decode cX8_due 12 = .ok (.ifCond .ne 5, 3) := by decide +kernel
theorem dX8_due_15 : decode cX8_due 15 = .ok (.iconst (-1), 1) := by decide +kernel
theorem dX8_due_16 : decode cX8_due 16 = .ok (.ireturn, 1) := by decide +kernel
theorem dX8_due_17 : decode cX8_due 17 = .ok (.aload_n 0, 1) := by decide +kernel
theorem dX8_due_18 : decode cX8_due 18 = .ok (.iload_n 1, 1) := by decide +kernel
theorem dX8_due_19 : decode cX8_due 19 = .ok (.iload_n 2, 1) := by decide +kernel
theorem dX8_due_20 : decode cX8_due 20 = .ok (.invokevirtual 215, 3) := by decide +kernel
theorem dX8_due_23 : decode cX8_due 23 = .ok (.istore_n 3, 1) := by decide +kernel
theorem dX8_due_24 : decode cX8_due 24 = .ok (.iload_n 3, 1) := by decide +kernel
theorem dX8_due_25 : decode cX8_due 25 = .ok (.ifCond .ge 8, 3) := by decide +kernel
theorem dX8_due_28 : decode cX8_due 28 = .ok (.iload_n 3, 1) := by decide +kernel
theorem dX8_due_29 : decode cX8_due 29 = .ok (.ineg, 1) := by decide +kernel
theorem dX8_due_30 : decode cX8_due 30 = .ok (.goto 4, 3) := by decide +kernel
theorem dX8_due_33 : decode cX8_due 33 = .ok (.iconst 0, 1) := by decide +kernel
theorem dX8_due_34 : decode cX8_due 34 = .ok (.ireturn, 1) := by decide +kernel
set_option maxRecDepth 20000 in
theorem ggX8_isIdle_X8_goNow : GoodIn wsX8_isIdle wsX8_goNow := goodIn_r _ [11, 5, 6, 12, 13, 10, 14, 15, 16, 17, 18, 19, 20, 21, 22, 23, 2, 4, 24, 25, 26, 27, 28, 29, 30, 31, 32, 33, 34, 35, 36, 37, 38, 39, 40, 41, 42, 43, 44, 45, 46, 47, 48, 49, 50, 51, 52, 53, 54, 55, 56, 57, 58, 59, 60, 61, 62, 63, 64, 65, 66, 67, 68, 69, 70, 71, 72, 73, 74, 75, 76, 77, 78, 79, 80, 81, 82, 83, 84, 85, 86, 87, 88, 89, 90, 91, 92, 93, 94, 95, 96, 97, 98, 99, 100] (by decide +kernel) (by decide +kernel)
set_option maxRecDepth 20000 in
theorem gX8_isIdle_X8_goNow : GoodIn wsX8_isIdle (wsV RX8 206 RX8 yX8_goNow wsX8_goNow) := goodIn_app (goodIn_of _ (by decide +kernel)) ggX8_isIdle_X8_goNow
set_option maxRecDepth 20000 in
theorem ggX8_isIdle_X8_every : GoodIn wsX8_isIdle wsX8_every := goodIn_r _ [14] (by decide +kernel) (by decide +kernel)
set_option maxRecDepth 20000 in
theorem gX8_isIdle_X8_every : GoodIn wsX8_isIdle (va_wsS RX8 197 yX8_every wsX8_every) := goodIn_app (goodIn_of _ (by decide +kernel)) ggX8_isIdle_X8_every
set_option maxRecDepth 20000 in
theorem ggX8_isIdle_X8_goDay : GoodIn wsX8_isIdle wsX8_goDay := goodIn_r _ [18, 19, 20, 21, 22, 23, 2, 4, 24, 25, 26, 27, 28, 29, 30, 10, 31, 32, 33, 34, 35, 36, 37, 38, 39, 40, 41, 42, 43, 44, 45, 46, 47, 48, 49, 50, 51, 52, 53, 54, 55, 56, 57, 58, 59, 60, 61, 62, 63, 64, 65, 66, 67, 68, 69, 70, 71, 72, 73, 74, 75, 76, 77, 78, 79, 80, 81, 82, 83, 84, 85, 86, 87, 88, 89, 90, 91, 92, 93, 94, 95, 96, 97, 98, 99, 100] (by decide +kernel) (by decide +kernel)
set_option maxRecDepth 20000 in
theorem gX8_isIdle_X8_goDay : GoodIn wsX8_isIdle (wsV RX8 200 RX8 yX8_goDay wsX8_goDay) := goodIn_app (goodIn_of _ (by decide +kernel)) ggX8_isIdle_X8_goDay
theorem dX8_isIdle_0 : decode cX8_isIdle 0 = .ok (.aload_n 0, 1) := by decide +kernel
theorem dX8_isIdle_1 : decode cX8_isIdle 1 = .ok (.invokevirtual 206, 3) := by decide +kernel
theorem dX8_isIdle_4 : decode cX8_isIdle 4 = .ok (.iconst 0, 1) := by decide +kernel
theorem dX8_isIdle_5 : decode cX8_isIdle 5 = .ok (.istore_n 2, 1) := by decide +kernel
theorem dX8_isIdle_6 : decode cX8_isIdle 6 = .ok (.iload_n 2, 1) := by decide +kernel
theorem dX8_isIdle_7 : decode cX8_isIdle 7 = .ok (.bipush 8, 2) := by decide +kernel
theorem dX8_isIdle_9 : decode cX8_isIdle 9 = .ok (.if_icmp .ge 33, 3) := by decide +kernel
theorem dX8_isIdle_12 : decode cX8_isIdle 12 = .ok (.aload_n 0, 1) := by decide +kernel
theorem dX8_isIdle_13 : decode cX8_isIdle 13 = .ok (.getfield 82, 3) := by decide +kernel
theorem dX8_isIdle_16 : decode cX8_isIdle 16 = .ok (.iload_n 2, 1) := by decide +kernel
theorem dX8_isIdle_17 : decode cX8_isIdle 17 = .ok (.aload_n 0, 1) := by decide +kernel
theorem dX8_isIdle_18 : decode cX8_isIdle 18 = .ok (.getfield 61, 3) := by decide +kernel
theorem dX8_isIdle_21 : decode cX8_isIdle 21 = .ok (.iload_n 2, 1) := by decide +kernel
theorem dX8_isIdle_22 : decode cX8_isIdle 22 = .ok (.iaload, 1) := by decide +kernel
theorem dX8_isIdle_23 : decode cX8_isIdle 23 = .ok (.iastore, 1) := by decide +kernel
theorem dX8_isIdle_24 : decode cX8_isIdle 24 = .ok (.aload_n 0, 1) := by decide +kernel
theorem dX8_isIdle_25 : decode cX8_isIdle 25 = .ok (.getfield 85, 3) := by decide +kernel
theorem dX8_isIdle_28 : decode cX8_isIdle 28 = .ok (.iload_n 2, 1) := by decide +kernel
theorem dX8_isIdle_29 : decode cX8_isIdle 29 = .ok (.aload_n 0, 1) := by decide +kernel
theorem dX8_isIdle_30 : decode cX8_isIdle 30 = .ok (.getfield 64, 3) := by decide +kernel
theorem dX8_isIdle_33 : decode cX8_isIdle 33 = .ok (.iload_n 2, 1) := by decide +kernel
theorem dX8_isIdle_34 : decode cX8_isIdle 34 = .ok (.iaload, 1) := by decide +kernel
theorem dX8_isIdle_35 : decode cX8_isIdle 35 = .ok (.iastore, 1) := by decide +kernel
theorem dX8_isIdle_36 : decode cX8_isIdle 36 = .ok (.iinc 2 1, 3) := by decide +kernel
theorem dX8_isIdle_39 : decode cX8_isIdle 39 = .ok (.goto (-33), 3) := by decide +kernel
theorem dX8_isIdle_42 : decode cX8_isIdle 42 = .ok (.aload_n 0, 1) := by decide +kernel
theorem dX8_isIdle_43 : decode cX8_isIdle 43 = .ok (.aload_n 0, 1) := by decide +kernel
theorem dX8_isIdle_44 : decode cX8_isIdle 44 = .ok (.getfield 143, 3) := by decide +kernel
theorem dX8_isIdle_47 : decode cX8_isIdle 47 = .ok (.aload_n 0, 1) := by decide +kernel
theorem dX8_isIdle_48 : decode cX8_isIdle 48 = .ok (.getfield 140, 3) := by decide +kernel
theorem dX8_isIdle_51 : decode cX8_isIdle 51 = .ok (.invokestatic 197, 3) := by decide +kernel
theorem dX8_isIdle_54 : decode cX8_isIdle 54 = .ok (.iconst 1, 1) := by decide +kernel
theorem dX8_isIdle_55 : decode cX8_isIdle 55 = .ok (.iload_n 1, 1) := by decide +kernel
theorem dX8_isIdle_56 : decode cX8_isIdle 56 = .ok (.ishl, 1) := by decide +kernel
theorem dX8_isIdle_57 : decode cX8_isIdle 57 = .ok (.isub, 1) := by decide +kernel
theorem dX8_isIdle_58 : decode cX8_isIdle 58 = .ok (.invokevirtual 200, 3) := by decide +kernel
theorem dX8_isIdle_61 : decode cX8_isIdle 61 = .ok (.iconst 1, 1) := by decide +kernel
theorem dX8_isIdle_62 : decode cX8_isIdle 62 = .ok (.istore_n 2, 1) := by decide +kernel
theorem dX8_isIdle_63 : decode cX8_isIdle 63 = .ok (.iconst 0, 1) := by decide +kernel
theorem dX8_isIdle_64 : decode cX8_isIdle 64 = .ok (.istore_n 3, 1) := by decide +kernel
theorem dX8_isIdle_65 : decode cX8_isIdle 65 = .ok (.iload_n 3, 1) := by decide +kernel
theorem dX8_isIdle_66 : decode cX8_isIdle 66 = .ok (.bipush 8, 2) := by decide +kernel
theorem dX8_isIdle_68 : decode cX8_isIdle 68 = .ok (.if_icmp .ge 49, 3) := by decide +kernel
theorem dX8_isIdle_71 : decode cX8_isIdle 71 = .ok (.iload_n 2, 1) := by decide +kernel
theorem dX8_isIdle_72 : decode cX8_isIdle 72 = .ok (.ifCond .eq 37, 3) := by decide +kernel
theorem dX8_isIdle_75 : decode cX8_isIdle 75 = .ok (.aload_n 0, 1) := by decide +kernel
theorem dX8_isIdle_76 : decode cX8_isIdle 76 = .ok (.getfield 82, 3) := by decide +kernel
theorem dX8_isIdle_79 : decode cX8_isIdle 79 = .ok (.iload_n 3, 1) := by decide +kernel
theorem dX8_isIdle_80 : decode cX8_isIdle 80 = .ok (.iaload, 1) := by decide +kernel
theorem dX8_isIdle_81 : decode cX8_isIdle 81 = .ok (.aload_n 0, 1) := by decide +kernel
theorem dX8_isIdle_82 : decode cX8_isIdle 82 = .ok (.getfield 61, 3) := by decide +kernel
theorem dX8_isIdle_85 : decode cX8_isIdle 85 = .ok (.iload_n 3, 1) := by decide +kernel
theorem dX8_isIdle_86 : decode cX8_isIdle 86 = .ok (.iaload, 1) := by decide +kernel
theorem dX8_isIdle_87 : decode cX8_isIdle 87 = .ok (.if_icmp .ne 22, 3) := by decide +kernel
theorem dX8_isIdle_90 : decode cX8_isIdle 90 = .ok (.aload_n 0, 1) := by decide +kernel
theorem dX8_isIdle_91 : decode cX8_isIdle 91 = .ok (.getfield 85, 3) := by decide +kernel
theorem dX8_isIdle_94 : decode cX8_isIdle 94 = .ok (.iload_n 3, 1) := by decide +kernel
theorem dX8_isIdle_95 : decode cX8_isIdle 95 = .ok (.iaload, 1) := by decide +kernel
theorem dX8_isIdle_96 : decode cX8_isIdle 96 = .ok (.aload_n 0, 1) := by decide +kernel
theorem dX8_isIdle_97 : decode cX8_isIdle 97 = .ok (.getfield 64, 3) := by decide +kernel
theorem dX8_isIdle_100 : decode cX8_isIdle 100 = .ok (.iload_n 3, 1) := by decide +kernel
theorem dX8_isIdle_101 : decode cX8_isIdle 101 = .ok (.iaload, 1) := by decide +kernel
theorem dX8_isIdle_102 : decode cX8_isIdle 102 = .ok (.if_icmp .ne 7, 3) := by decide +kernel
theorem dX8_isIdle_105 : decode cX8_isIdle 105 = .ok (.iconst 1, 1) := by decide +kernel
theorem dX8_isIdle_106 : decode cX8_isIdle 106 = .ok (.goto 4, 3) := by decide +kernel
theorem dX8_isIdle_109 : decode cX8_isIdle 109 = .ok (.iconst 0, 1) := by decide +kernel
theorem dX8_isIdle_110 : decode cX8_isIdle 110 = .ok (.istore_n 2, 1) := by decide +kernel
theorem dX8_isIdle_111 : decode cX8_isIdle 111 = .ok (.iinc 3 1, 3) := by decide +kernel
theorem dX8_isIdle_114 : decode cX8_isIdle 114 = .ok (.goto (-49), 3) := by decide +kernel
theorem dX8_isIdle_117 : decode cX8_isIdle 117 = .ok (.iload_n 2, 1) := by decide +kernel
theorem dX8_isIdle_118 : decode cX8_isIdle 118 = .ok (.ireturn, 1) := by decide +kernel
set_option maxRecDepth 20000 in
theorem ggX8_idle_X8_within : GoodIn wsX8_idle wsX8_within := goodIn_r _ [6] (by decide +kernel) (by decide +kernel)
set_option maxRecDepth 20000 in
theorem gX8_idle_X8_within : GoodIn wsX8_idle (va_wsS RX8 106 yX8_within wsX8_within) := goodIn_app (goodIn_of _ (by decide +kernel)) ggX8_idle_X8_within
set_option maxRecDepth 20000 in
theorem ggX8_idle_X8_isIdle : GoodIn wsX8_idle wsX8_isIdle := goodIn_r _ [10, 11, 12, 13, 14, 15, 1, 16, 17, 18, 5, 19, 20, 21, 22, 23, 24, 25, 26, 27, 28, 29, 30, 31, 32, 33, 34, 35, 36, 37, 38, 39, 40, 41, 42, 2, 43, 44, 45, 46, 47, 48, 49, 50, 51, 52, 53, 54, 55, 56, 57, 58, 59, 60, 61, 62, 63, 69, 70, 71, 72, 73, 74, 75, 76, 77, 78, 79, 80, 81, 82, 83, 84, 85, 86, 87, 88, 89, 90, 91, 92, 93, 94, 95, 96, 97, 98, 99, 100, 101, 102, 103, 104, 105, 106, 107, 108, 109, 110, 111, 112] (by decide +kernel) (by decide +kernel)
set_option maxRecDepth 20000 in
theorem gX8_idle_X8_isIdle : GoodIn wsX8_idle (wsV RX8 218 RX8 yX8_isIdle wsX8_isIdle) := goodIn_app (goodIn_of _ (by decide +kernel)) ggX8_idle_X8_isIdle
set_option maxRecDepth 20000 in
theorem ggX8_idle_X8_isForbidden : GoodIn wsX8_idle wsX8_isForbidden := goodIn_r _ [67, 68, 69, 70, 71, 72, 73, 74, 75, 76, 77, 78, 79, 80, 81, 82, 83, 84, 85, 86, 87, 88, 89, 90, 91, 92, 93, 94, 95, 96, 97, 98, 99, 100, 101, 102, 103, 104, 105, 106, 107, 108, 109, 110, 111, 112] (by decide +kernel) (by decide +kernel)
set_option maxRecDepth 20000 in
theorem gX8_idle_X8_isForbidden : GoodIn wsX8_idle (wsV RX8 221 RX8 yX8_isForbidden wsX8_isForbidden) := goodIn_app (goodIn_of _ (by decide +kernel)) ggX8_idle_X8_isForbidden
theorem dX8_idle_0 : decode cX8_idle 0 = .ok (.iload_n 1, 1) := by decide +kernel
theorem dX8_idle_1 : decode cX8_idle 1 = .ok (.iconst 0, 1) := by decide +kernel
theorem dX8_idle_2 : decode cX8_idle 2 = .ok (.iconst 1, 1) := by decide +kernel
theorem dX8_idle_3 : decode cX8_idle 3 = .ok (.invokestatic 106, 3) := by decide +kernel
theorem dX8_idle_6 : decode cX8_idle 6 = .ok (.ifCond .ne 6, 3) := by decide +kernel
theorem dX8_idle_9 : decode cX8_idle 9 = .ok (.bipush (-2), 2) := by decide +kernel
theorem dX8_idle_11 : decode cX8_idle 11 = .ok (.ireturn, 1) := by decide +kernel
theorem dX8_idle_12 : decode cX8_idle 12 = .ok (.iconst 0, 1) := by decide +kernel
theorem dX8_idle_13 : decode cX8_idle 13 = .ok (.istore_n 2, 1) := by decide +kernel
theorem dX8_idle_14 : decode cX8_idle 14 = .ok (.iconst 0, 1) := by decide +kernel
theorem dX8_idle_15 : decode cX8_idle 15 = .ok (.istore_n 3, 1) := by decide +kernel
theorem dX8_idle_16 : decode cX8_idle 16 = .ok (.iload_n 3, 1) := by decide +kernel
theorem dX8_idle_17 : decode cX8_idle 17 = .ok (.aload_n 0, 1) := by decide +kernel
theorem dX8_idle_18 : decode cX8_idle 18 = .ok (.getfield 140, 3) := by decide +kernel
theorem dX8_idle_21 : decode cX8_idle 21 = .ok (.if_icmp .ge 48, 3) := by decide +kernel
theorem dX8_idle_24 : decode cX8_idle 24 = .ok (.iload_n 1, 1) := by decide +kernel
theorem dX8_idle_25 : decode cX8_idle 25 = .ok (.ifCond .ne 11, 3) := by decide +kernel
theorem dX8_idle_28 : decode cX8_idle 28 = .ok (.aload_n 0, 1) := by decide +kernel
theorem dX8_idle_29 : decode cX8_idle 29 = .ok (.iload_n 3, 1) := by decide +kernel
theorem dX8_idle_30 : decode cX8_idle 30 = .ok (.invokevirtual 218, 3) := by decide +kernel
theorem dX8_idle_33 : decode cX8_idle 33 = .ok (.goto 13, 3) := by decide +kernel
theorem dX8_idle_36 : decode cX8_idle 36 = .ok (.aload_n 0, 1) := by decide +kernel
theorem dX8_idle_37 : decode cX8_idle 37 = .ok (.aload_n 0, 1) := by decide +kernel
theorem dX8_idle_38 : decode cX8_idle 38 = .ok (.getfield 52, 3) := by decide +kernel
theorem dX8_idle_41 : decode cX8_idle 41 = .ok (.iload_n 3, 1) := by decide +kernel
theorem dX8_idle_42 : decode cX8_idle 42 = .ok (.iaload, 1) := by decide +kernel
theorem dX8_idle_43 : decode cX8_idle 43 = .ok (.invokevirtual 221, 3) := by decide +kernel
theorem dX8_idle_46 : decode cX8_idle 46 = .ok (.istore 4, 2) := by decide +kernel
theorem dX8_idle_48 : decode cX8_idle 48 = .ok (.iload_n 2, 1) := by decide +kernel
theorem dX8_idle_49 : decode cX8_idle 49 = .ok (.iload 4, 2) := by decide +kernel
theorem dX8_idle_51 : decode cX8_idle 51 = .ok (.ifCond .eq 9, 3) := by decide +kernel
theorem dX8_idle_54 : decode cX8_idle 54 = .ok (.iconst 1, 1) := by decide +kernel
theorem dX8_idle_55 : decode cX8_idle 55 = .ok (.iload_n 3, 1) := by decide +kernel
theorem dX8_idle_56 : decode cX8_idle 56 = .ok (.ishl, 1) := by decide +kernel
theorem dX8_idle_57 : decode cX8_idle 57 = .ok (.goto 4, 3) := by decide +kernel
theorem dX8_idle_60 : decode cX8_idle 60 = .ok (.iconst 0, 1) := by decide +kernel
theorem dX8_idle_61 : decode cX8_idle 61 = .ok (.ior, 1) := by decide +kernel
theorem dX8_idle_62 : decode cX8_idle 62 = .ok (.istore_n 2, 1) := by decide +kernel
theorem dX8_idle_63 : decode cX8_idle 63 = .ok (.iinc 3 1, 3) := by decide +kernel
theorem dX8_idle_66 : decode cX8_idle 66 = .ok (.goto (-50), 3) := by decide +kernel
theorem dX8_idle_69 : decode cX8_idle 69 = .ok (.iload_n 2, 1) := by decide +kernel
theorem dX8_idle_70 : decode cX8_idle 70 = .ok (.ireturn, 1) := by decide +kernel
set_option maxRecDepth 20000 in
theorem ggX8_mayFire_X8_isForbidden : GoodIn wsX8_mayFire wsX8_isForbidden := goodIn_r _ [6, 7, 8, 9, 10, 11, 12, 13, 14, 15, 16, 17, 18, 19, 20, 21, 22, 23, 24, 25, 26, 27, 28, 29, 30, 31, 32, 33, 34, 35, 36, 37, 38, 39, 40, 41, 42, 43, 44, 45, 46, 47, 48, 49, 50, 51] (by decide +kernel) (by decide +kernel)
set_option maxRecDepth 20000 in
theorem gX8_mayFire_X8_isForbidden : GoodIn wsX8_mayFire (wsV RX8 221 RX8 yX8_isForbidden wsX8_isForbidden) := goodIn_app (goodIn_of _ (by decide +kernel)) ggX8_mayFire_X8_isForbidden
theorem dX8_mayFire_0 : decode cX8_mayFire 0 = .ok (.iload_n 3, 1) := by decide +kernel
theorem dX8_mayFire_1 : decode cX8_mayFire 1 = .ok (.iconst (-1), 1) := by decide +kernel
theorem dX8_mayFire_2 : decode cX8_mayFire 2 = .ok (.if_icmp .eq 13, 3) := by decide +kernel
theorem dX8_mayFire_5 : decode cX8_mayFire 5 = .ok (.aload_n 0, 1) := by decide +kernel
theorem dX8_mayFire_6 : decode cX8_mayFire 6 = .ok (.getfield 19, 3) := by decide +kernel
theorem dX8_mayFire_9 : decode cX8_mayFire 9 = .ok (.iload_n 1, 1) := by decide +kernel
theorem dX8_mayFire_10 : decode cX8_mayFire 10 = .ok (.iaload, 1) := by decide +kernel
theorem dX8_mayFire_11 : decode cX8_mayFire 11 = .ok (.iload_n 3, 1) := by decide +kernel
theorem dX8_mayFire_12 : decode cX8_mayFire 12 = .ok (.if_icmp .ne 15, 3) := by decide +kernel
theorem dX8_mayFire_15 : decode cX8_mayFire 15 = .ok (.aload_n 0, 1) := by decide +kernel
theorem dX8_mayFire_16 : decode cX8_mayFire 16 = .ok (.iload_n 2, 1) := by decide +kernel
theorem dX8_mayFire_17 : decode cX8_mayFire 17 = .ok (.invokevirtual 221, 3) := by decide +kernel
theorem dX8_mayFire_20 : decode cX8_mayFire 20 = .ok (.ifCond .ne 7, 3) := by decide +kernel
theorem dX8_mayFire_23 : decode cX8_mayFire 23 = .ok (.iconst 1, 1) := by decide +kernel
theorem dX8_mayFire_24 : decode cX8_mayFire 24 = .ok (.goto 4, 3) := by decide +kernel
theorem dX8_mayFire_27 : decode cX8_mayFire 27 = .ok (.iconst 0, 1) := by decide +kernel
theorem dX8_mayFire_28 : decode cX8_mayFire 28 = .ok (.ireturn, 1) := by decide +kernel
set_option maxRecDepth 20000 in
theorem ggX8_oneMore_X8_isClub : GoodIn wsX8_oneMore wsX8_isClub := goodIn_r _ [7, 8, 9, 6, 10] (by decide +kernel) (by decide +kernel)
set_option maxRecDepth 20000 in
theorem gX8_oneMore_X8_isClub : GoodIn wsX8_oneMore (va_wsS RX8 209 yX8_isClub wsX8_isClub) := goodIn_app (goodIn_of _ (by decide +kernel)) ggX8_oneMore_X8_isClub
set_option maxRecDepth 20000 in
theorem ggX8_oneMore_X8_within : GoodIn wsX8_oneMore wsX8_within := goodIn_r _ [10] (by decide +kernel) (by decide +kernel)
set_option maxRecDepth 20000 in
theorem gX8_oneMore_X8_within : GoodIn wsX8_oneMore (va_wsS RX8 106 yX8_within wsX8_within) := goodIn_app (goodIn_of _ (by decide +kernel)) ggX8_oneMore_X8_within
set_option maxRecDepth 20000 in
theorem ggX8_oneMore_X8_isPlain : GoodIn wsX8_oneMore wsX8_isPlain := goodIn_r _ [14, 1, 85, 86, 87, 88, 89, 90, 91, 92, 93, 94, 95, 96, 97, 98, 99, 100, 101, 102, 103, 104, 105, 106, 107, 108, 109, 110, 111, 112, 113, 114, 115, 116, 117, 118, 119, 120, 121, 122, 123, 124, 125, 126, 127, 128] (by decide +kernel) (by decide +kernel)
set_option maxRecDepth 20000 in
theorem gX8_oneMore_X8_isPlain : GoodIn wsX8_oneMore (wsV RX8 163 RX8 yX8_isPlain wsX8_isPlain) := goodIn_app (goodIn_of _ (by decide +kernel)) ggX8_oneMore_X8_isPlain
set_option maxRecDepth 20000 in
theorem ggX8_oneMore_X8_mayFire : GoodIn wsX8_oneMore wsX8_mayFire := goodIn_r _ [18, 19, 20, 21, 22, 6, 23, 24, 85, 86, 87, 88, 89, 90, 91, 92, 93, 94, 95, 96, 97, 98, 99, 100, 101, 102, 103, 104, 105, 106, 107, 108, 109, 110, 111, 112, 113, 114, 115, 116, 117, 118, 119, 120, 121, 122, 123, 124, 125, 126, 127, 128] (by decide +kernel) (by decide +kernel)
set_option maxRecDepth 20000 in
theorem gX8_oneMore_X8_mayFire : GoodIn wsX8_oneMore (wsV RX8 224 RX8 yX8_mayFire wsX8_mayFire) := goodIn_app (goodIn_of _ (by decide +kernel)) ggX8_oneMore_X8_mayFire
set_option maxRecDepth 20000 in
theorem ggX8_oneMore_X8_layShot : GoodIn wsX8_oneMore wsX8_layShot := goodIn_r _ [28, 29, 30, 31, 32, 85, 86, 87, 88, 89, 90, 91, 92, 93, 94, 95, 96, 97, 98, 99, 100, 101, 102, 103, 104, 105, 106, 107, 108, 109, 110, 111, 112, 113, 114, 115, 116, 117, 118, 119, 120, 121, 122, 123, 124, 125, 126, 127, 128] (by decide +kernel) (by decide +kernel)
set_option maxRecDepth 20000 in
theorem gX8_oneMore_X8_layShot : GoodIn wsX8_oneMore (wsV RX8 170 RX8 yX8_layShot wsX8_layShot) := goodIn_app (goodIn_of _ (by decide +kernel)) ggX8_oneMore_X8_layShot
set_option maxRecDepth 20000 in
theorem ggX8_oneMore_X8_every : GoodIn wsX8_oneMore wsX8_every := goodIn_r _ [35] (by decide +kernel) (by decide +kernel)
set_option maxRecDepth 20000 in
theorem gX8_oneMore_X8_every : GoodIn wsX8_oneMore (va_wsS RX8 197 yX8_every wsX8_every) := goodIn_app (goodIn_of _ (by decide +kernel)) ggX8_oneMore_X8_every
set_option maxRecDepth 20000 in
theorem ggX8_oneMore_X8_goDay : GoodIn wsX8_oneMore wsX8_goDay := goodIn_r _ [39, 40, 41, 42, 43, 44, 45, 46, 47, 48, 49, 50, 51, 52, 53, 6, 54, 55, 56, 57, 31, 58, 59, 60, 61, 62, 63, 64, 65, 66, 1, 67, 68, 69, 70, 30, 32, 29, 71, 72, 73, 74, 85, 86, 87, 88, 89, 90, 91, 92, 93, 94, 95, 96, 97, 98, 99, 100, 101, 102, 103, 104, 105, 106, 107, 108, 109, 110, 111, 112, 113, 114, 115, 116, 117, 118, 119, 120, 121, 122, 123, 124, 125, 126, 127, 128] (by decide +kernel) (by decide +kernel)
set_option maxRecDepth 20000 in
theorem gX8_oneMore_X8_goDay : GoodIn wsX8_oneMore (wsV RX8 200 RX8 yX8_goDay wsX8_goDay) := goodIn_app (goodIn_of _ (by decide +kernel)) ggX8_oneMore_X8_goDay
set_option maxRecDepth 20000 in
theorem ggX8_oneMore_X8_yieldTo : GoodIn wsX8_oneMore wsX8_yieldTo := goodIn_r _ [78, 1, 19, 79, 80, 81, 6, 82, 45, 83, 84, 46, 85, 86, 87, 88, 89, 90, 91, 92, 93, 94, 95, 96, 97, 98, 99, 100, 101, 102, 103, 104, 105, 106, 107, 108, 109, 110, 111, 112, 113, 114, 115, 116, 117, 118, 119, 120, 121, 122, 123, 124, 125, 126, 127, 128] (by decide +kernel) (by decide +kernel)
set_option maxRecDepth 20000 in
theorem gX8_oneMore_X8_yieldTo : GoodIn wsX8_oneMore (wsV RX8 212 RX8 yX8_yieldTo wsX8_yieldTo) := goodIn_app (goodIn_of _ (by decide +kernel)) ggX8_oneMore_X8_yieldTo
theorem dX8_oneMore_0 : decode cX8_oneMore 0 = .ok (.iload_n 1, 1) := by decide +kernel
theorem dX8_oneMore_1 : decode cX8_oneMore 1 = .ok (.iconst (-1), 1) := by decide +kernel
theorem dX8_oneMore_2 : decode cX8_oneMore 2 = .ok (.if_icmp .eq 12, 3) := by decide +kernel
theorem dX8_oneMore_5 : decode cX8_oneMore 5 = .ok (.iload_n 1, 1) := by decide +kernel
theorem dX8_oneMore_6 : decode cX8_oneMore 6 = .ok (.invokestatic 209, 3) := by decide +kernel
theorem dX8_oneMore_9 : decode cX8_oneMore 9 = .ok (.ifCond .ne 5, 3) := by decide +kernel
theorem dX8_oneMore_12 : decode cX8_oneMore 12 = .ok (.iconst (-1), 1) := by decide +kernel
theorem dX8_oneMore_13 : decode cX8_oneMore 13 = .ok (.ireturn, 1) := by decide +kernel
theorem dX8_oneMore_14 : decode cX8_oneMore 14 = .ok (.iload_n 2, 1) := by decide +kernel
theorem dX8_oneMore_15 : decode cX8_oneMore 15 = .ok (.iconst 1, 1) := by decide +kernel
theorem dX8_oneMore_16 : decode cX8_oneMore 16 = .ok (.bipush 9, 2) := by decide +kernel
theorem dX8_oneMore_18 : decode cX8_oneMore 18 = .ok (.invokestatic 106, 3) := by decide +kernel
theorem dX8_oneMore_21 : decode cX8_oneMore 21 = .ok (.ifCond .eq 12, 3) := by decide +kernel
theorem dX8_oneMore_24 : decode cX8_oneMore 24 = .ok (.iload_n 3, 1) := by decide +kernel
theorem dX8_oneMore_25 : decode cX8_oneMore 25 = .ok (.iconst 0, 1) := by decide +kernel
theorem dX8_oneMore_26 : decode cX8_oneMore 26 = .ok (.iconst 2, 1) := by decide +kernel
theorem dX8_oneMore_27 : decode cX8_oneMore 27 = .ok (.invokestatic 106, 3) := by decide +kernel
theorem dX8_oneMore_30 : decode cX8_oneMore 30 = .ok (.ifCond .ne 6, 3) := by decide +kernel
theorem dX8_oneMore_33 : decode cX8_oneMore 33 = .ok (.bipush (-2), 2) := by decide +kernel
theorem dX8_oneMore_35 : decode cX8_oneMore 35 = .ok (.ireturn, 1) := by decide +kernel
theorem dX8_oneMore_36 : decode cX8_oneMore 36 = .ok (.aload_n 0, 1) := by decide +kernel
theorem dX8_oneMore_37 : decode cX8_oneMore 37 = .ok (.invokevirtual 163, 3) := by decide +kernel
theorem dX8_oneMore_40 : decode cX8_oneMore 40 = .ok (.ifCond .ne 6, 3) := by decide +kernel
theorem dX8_oneMore_43 : decode cX8_oneMore 43 = .ok (.bipush (-3), 2) := by decide +kernel
theorem dX8_oneMore_45 : decode cX8_oneMore 45 = .ok (.ireturn, 1) := by decide +kernel
theorem dX8_oneMore_46 : decode cX8_oneMore 46 = .ok (.bipush (-9), 2) := by decide +kernel
theorem dX8_oneMore_48 : decode cX8_oneMore 48 = .ok (.istore 4, 2) := by decide +kernel
theorem dX8_oneMore_50 : decode cX8_oneMore 50 = .ok (.bipush (-9), 2) := by decide +kernel
theorem dX8_oneMore_52 : decode cX8_oneMore 52 = .ok (.istore 5, 2) := by decide +kernel
theorem dX8_oneMore_54 : decode cX8_oneMore 54 = .ok (.iconst 0, 1) := by decide +kernel
theorem dX8_oneMore_55 : decode cX8_oneMore 55 = .ok (.istore 6, 2) := by decide +kernel
theorem dX8_oneMore_57 : decode cX8_oneMore 57 = .ok (.iload 6, 2) := by decide +kernel
theorem dX8_oneMore_59 : decode cX8_oneMore 59 = .ok (.aload_n 0, 1) := by decide +kernel
theorem dX8_oneMore_60 : decode cX8_oneMore 60 = .ok (.getfield 110, 3) := by decide +kernel
theorem dX8_oneMore_63 : decode cX8_oneMore 63 = .ok (.if_icmp .ge 103, 3) := by decide +kernel
theorem dX8_oneMore_66 : decode cX8_oneMore 66 = .ok (.iconst 0, 1) := by decide +kernel
theorem dX8_oneMore_67 : decode cX8_oneMore 67 = .ok (.istore 7, 2) := by decide +kernel
theorem dX8_oneMore_69 : decode cX8_oneMore 69 = .ok (.iload 7, 2) := by decide +kernel
theorem dX8_oneMore_71 : decode cX8_oneMore 71 = .ok (.bipush 12, 2) := by decide +kernel
theorem dX8_oneMore_73 : decode cX8_oneMore 73 = .ok (.if_icmp .ge 87, 3) := by decide +kernel
theorem dX8_oneMore_76 : decode cX8_oneMore 76 = .ok (.aload_n 0, 1) := by decide +kernel
theorem dX8_oneMore_77 : decode cX8_oneMore 77 = .ok (.iload 6, 2) := by decide +kernel
theorem dX8_oneMore_79 : decode cX8_oneMore 79 = .ok (.iload 7, 2) := by decide +kernel
theorem dX8_oneMore_81 : decode cX8_oneMore 81 = .ok (.iload_n 1, 1) := by decide +kernel
theorem dX8_oneMore_82 : decode cX8_oneMore 82 = .ok (.invokevirtual 224, 3) := by decide +kernel
theorem dX8_oneMore_85 : decode cX8_oneMore 85 = .ok (.ifCond .eq 69, 3) := by decide +kernel
theorem dX8_oneMore_88 : decode cX8_oneMore 88 = .ok (.aload_n 0, 1) := by decide +kernel
theorem dX8_oneMore_89 : decode cX8_oneMore 89 = .ok (.aload_n 0, 1) := by decide +kernel
theorem dX8_oneMore_90 : decode cX8_oneMore 90 = .ok (.getfield 140, 3) := by decide +kernel
theorem dX8_oneMore_93 : decode cX8_oneMore 93 = .ok (.iconst 0, 1) := by decide +kernel
theorem dX8_oneMore_94 : decode cX8_oneMore 94 = .ok (.iload 6, 2) := by decide +kernel
theorem dX8_oneMore_96 : decode cX8_oneMore 96 = .ok (.iload 7, 2) := by decide +kernel
theorem dX8_oneMore_98 : decode cX8_oneMore 98 = .ok (.iload_n 2, 1) := by decide +kernel
theorem dX8_oneMore_99 : decode cX8_oneMore 99 = .ok (.invokevirtual 170, 3) := by decide +kernel
theorem dX8_oneMore_102 : decode cX8_oneMore 102 = .ok (.aload_n 0, 1) := by decide +kernel
theorem dX8_oneMore_103 : decode cX8_oneMore 103 = .ok (.aload_n 0, 1) := by decide +kernel
theorem dX8_oneMore_104 : decode cX8_oneMore 104 = .ok (.getfield 143, 3) := by decide +kernel
theorem dX8_oneMore_107 : decode cX8_oneMore 107 = .ok (.aload_n 0, 1) := by decide +kernel
theorem dX8_oneMore_108 : decode cX8_oneMore 108 = .ok (.getfield 140, 3) := by decide +kernel
theorem dX8_oneMore_111 : decode cX8_oneMore 111 = .ok (.iconst 1, 1) := by decide +kernel
theorem dX8_oneMore_112 : decode cX8_oneMore 112 = .ok (.iadd, 1) := by decide +kernel
theorem dX8_oneMore_113 : decode cX8_oneMore 113 = .ok (.invokestatic 197, 3) := by decide +kernel
theorem dX8_oneMore_116 : decode cX8_oneMore 116 = .ok (.invokevirtual 200, 3) := by decide +kernel
theorem dX8_oneMore_119 : decode cX8_oneMore 119 = .ok (.aload_n 0, 1) := by decide +kernel
theorem dX8_oneMore_120 : decode cX8_oneMore 120 = .ok (.iload_n 1, 1) := by decide +kernel
theorem dX8_oneMore_121 : decode cX8_oneMore 121 = .ok (.invokevirtual 212, 3) := by decide +kernel
theorem dX8_oneMore_124 : decode cX8_oneMore 124 = .ok (.istore 8, 2) := by decide +kernel
theorem dX8_oneMore_126 : decode cX8_oneMore 126 = .ok (.iload 4, 2) := by decide +kernel
theorem dX8_oneMore_128 : decode cX8_oneMore 128 = .ok (.bipush (-9), 2) := by decide +kernel
theorem dX8_oneMore_130 : decode cX8_oneMore 130 = .ok (.if_icmp .eq 10, 3) := by decide +kernel
theorem dX8_oneMore_133 : decode cX8_oneMore 133 = .ok (.iload 8, 2) := by decide +kernel
theorem dX8_oneMore_135 : decode cX8_oneMore 135 = .ok (.iload 5, 2) := by decide +kernel
theorem dX8_oneMore_137 : decode cX8_oneMore 137 = .ok (.if_icmp .le 17, 3) := by decide +kernel
theorem dX8_oneMore_140 : decode cX8_oneMore 140 = .ok (.bipush 12, 2) := by decide +kernel
theorem dX8_oneMore_142 : decode cX8_oneMore 142 = .ok (.iload 6, 2) := by decide +kernel
theorem dX8_oneMore_144 : decode cX8_oneMore 144 = .ok (.imul, 1) := by decide +kernel
theorem dX8_oneMore_145 : decode cX8_oneMore 145 = .ok (.iload 7, 2) := by decide +kernel
theorem dX8_oneMore_147 : decode cX8_oneMore 147 = .ok (.iadd, 1) := by decide +kernel
theorem dX8_oneMore_148 : decode cX8_oneMore 148 = .ok (.istore 4, 2) := by decide +kernel
theorem dX8_oneMore_150 : decode cX8_oneMore 150 = .ok (.iload 8, 2) := by decide +kernel
theorem dX8_oneMore_152 : decode cX8_oneMore 152 = .ok (.istore 5, 2) := by decide +kernel
theorem dX8_oneMore_154 : decode cX8_oneMore 154 = .ok (.iinc 7 1, 3) := by decide +kernel
theorem dX8_oneMore_157 : decode cX8_oneMore 157 = .ok (.goto (-88), 3) := by decide +kernel
theorem dX8_oneMore_160 : decode cX8_oneMore 160 = .ok (.iinc 6 1, 3) := by decide +kernel
theorem dX8_oneMore_163 : decode cX8_oneMore 163 = .ok (.goto (-106), 3) := by decide +kernel
theorem dX8_oneMore_166 : decode cX8_oneMore 166 = .ok (.iload_n 3, 1) := by decide +kernel
theorem dX8_oneMore_167 : decode cX8_oneMore 167 = .ok (.ifCond .eq 10, 3) := by decide +kernel
theorem dX8_oneMore_170 : decode cX8_oneMore 170 = .ok (.iload 4, 2) := by decide +kernel
theorem dX8_oneMore_172 : decode cX8_oneMore 172 = .ok (.bipush (-9), 2) := by decide +kernel
theorem dX8_oneMore_174 : decode cX8_oneMore 174 = .ok (.if_icmp .ne 8, 3) := by decide +kernel
theorem dX8_oneMore_177 : decode cX8_oneMore 177 = .ok (.iload 5, 2) := by decide +kernel
theorem dX8_oneMore_179 : decode cX8_oneMore 179 = .ok (.goto 21, 3) := by decide +kernel
theorem dX8_oneMore_182 : decode cX8_oneMore 182 = .ok (.iload_n 3, 1) := by decide +kernel
theorem dX8_oneMore_183 : decode cX8_oneMore 183 = .ok (.iconst 1, 1) := by decide +kernel
theorem dX8_oneMore_184 : decode cX8_oneMore 184 = .ok (.if_icmp .ne 11, 3) := by decide +kernel
theorem dX8_oneMore_187 : decode cX8_oneMore 187 = .ok (.iload 4, 2) := by decide +kernel
theorem dX8_oneMore_189 : decode cX8_oneMore 189 = .ok (.bipush 12, 2) := by decide +kernel
theorem dX8_oneMore_191 : decode cX8_oneMore 191 = .ok (.idiv, 1) := by decide +kernel
theorem dX8_oneMore_192 : decode cX8_oneMore 192 = .ok (.goto 8, 3) := by decide +kernel
theorem dX8_oneMore_195 : decode cX8_oneMore 195 = .ok (.iload 4, 2) := by decide +kernel
theorem dX8_oneMore_197 : decode cX8_oneMore 197 = .ok (.bipush 12, 2) := by decide +kernel
theorem dX8_oneMore_199 : decode cX8_oneMore 199 = .ok (.irem, 1) := by decide +kernel
theorem dX8_oneMore_200 : decode cX8_oneMore 200 = .ok (.ireturn, 1) := by decide +kernel
set_option maxRecDepth 20000 in
theorem ggX8_awaited_X8_within : GoodIn wsX8_awaited wsX8_within := goodIn_r _ [8] (by decide +kernel) (by decide +kernel)
set_option maxRecDepth 20000 in
theorem gX8_awaited_X8_within : GoodIn wsX8_awaited (va_wsS RX8 106 yX8_within wsX8_within) := goodIn_app (goodIn_of _ (by decide +kernel)) ggX8_awaited_X8_within
set_option maxRecDepth 20000 in
theorem ggX8_awaited_X8_goDay : GoodIn wsX8_awaited wsX8_goDay := goodIn_r _ [12, 13, 14, 15, 16, 17, 18, 19, 20, 21, 22, 23, 24, 25, 26, 7, 27, 28, 29, 30, 31, 32, 33, 34, 35, 36, 37, 38, 39, 40, 41, 42, 43, 44, 45, 46, 47, 48, 49, 50, 51, 52, 67, 68, 69, 70, 71, 72, 73, 74, 75, 76, 77, 78, 79, 80, 81, 82, 83, 84, 85, 86, 87, 88, 89, 90, 91, 92, 93, 94, 95, 96, 97, 98, 99, 100, 101, 102, 103, 104, 105, 106, 107, 108, 109, 110] (by decide +kernel) (by decide +kernel)
set_option maxRecDepth 20000 in
theorem gX8_awaited_X8_goDay : GoodIn wsX8_awaited (wsV RX8 200 RX8 yX8_goDay wsX8_goDay) := goodIn_app (goodIn_of _ (by decide +kernel)) ggX8_awaited_X8_goDay
set_option maxRecDepth 20000 in
theorem ggX8_awaited_X8_yieldTo : GoodIn wsX8_awaited wsX8_yieldTo := goodIn_r _ [56, 41, 57, 58, 59, 60, 7, 61, 18, 62, 63, 19, 67, 68, 69, 70, 71, 72, 73, 74, 75, 76, 77, 78, 79, 80, 81, 82, 83, 84, 85, 86, 87, 88, 89, 90, 91, 92, 93, 94, 95, 96, 97, 98, 99, 100, 101, 102, 103, 104, 105, 106, 107, 108, 109, 110] (by decide +kernel) (by decide +kernel)
set_option maxRecDepth 20000 in
theorem gX8_awaited_X8_yieldTo : GoodIn wsX8_awaited (wsV RX8 212 RX8 yX8_yieldTo wsX8_yieldTo) := goodIn_app (goodIn_of _ (by decide +kernel)) ggX8_awaited_X8_yieldTo
set_option maxRecDepth 20000 in
theorem ggX8_awaited_X8_share : GoodIn wsX8_awaited wsX8_share := goodIn_r _ [66] (by decide +kernel) (by decide +kernel)
set_option maxRecDepth 20000 in
theorem gX8_awaited_X8_share : GoodIn wsX8_awaited (va_wsS RX8 229 yX8_share wsX8_share) := goodIn_app (goodIn_of _ (by decide +kernel)) ggX8_awaited_X8_share
theorem dX8_awaited_0 : decode cX8_awaited 0 = .ok (.iload_n 1, 1) := by decide +kernel
theorem dX8_awaited_1 : decode cX8_awaited 1 = .ok (.iconst 0, 1) := by decide +kernel
theorem dX8_awaited_2 : decode cX8_awaited 2 = .ok (.bipush 10, 2) := by decide +kernel
theorem dX8_awaited_4 : decode cX8_awaited 4 = .ok (.invokestatic 106, 3) := by decide +kernel
theorem dX8_awaited_7 : decode cX8_awaited 7 = .ok (.ifCond .eq 12, 3) := by decide +kernel
theorem dX8_awaited_10 : decode cX8_awaited 10 = .ok (.iload_n 2, 1) := by decide +kernel
theorem dX8_awaited_11 : decode cX8_awaited 11 = .ok (.iconst 0, 1) := by decide +kernel
theorem dX8_awaited_12 : decode cX8_awaited 12 = .ok (.iconst 1, 1) := by decide +kernel
theorem dX8_awaited_13 : decode cX8_awaited 13 = .ok (.invokestatic 106, 3) := by decide +kernel
theorem dX8_awaited_16 : decode cX8_awaited 16 = .ok (.ifCond .ne 7, 3) := by decide +kernel
theorem dX8_awaited_19 : decode cX8_awaited 19 = .ok (.ldc2_w 104, 3) := by decide +kernel
theorem dX8_awaited_22 : decode cX8_awaited 22 = .ok (.lreturn, 1) := by decide +kernel
theorem dX8_awaited_23 : decode cX8_awaited 23 = .ok (.lconst 0, 1) := by decide +kernel
theorem dX8_awaited_24 : decode cX8_awaited 24 = .ok (.lstore_n 3, 1) := by decide +kernel
theorem dX8_awaited_25 : decode cX8_awaited 25 = .ok (.lconst 1, 1) := by decide +kernel
theorem dX8_awaited_26 : decode cX8_awaited 26 = .ok (.lstore 5, 2) := by decide +kernel
theorem dX8_awaited_28 : decode cX8_awaited 28 = .ok (.iconst 0, 1) := by decide +kernel
theorem dX8_awaited_29 : decode cX8_awaited 29 = .ok (.istore 7, 2) := by decide +kernel
theorem dX8_awaited_31 : decode cX8_awaited 31 = .ok (.iload 7, 2) := by decide +kernel
theorem dX8_awaited_33 : decode cX8_awaited 33 = .ok (.aload_n 0, 1) := by decide +kernel
theorem dX8_awaited_34 : decode cX8_awaited 34 = .ok (.getfield 140, 3) := by decide +kernel
theorem dX8_awaited_37 : decode cX8_awaited 37 = .ok (.if_icmp .ge 17, 3) := by decide +kernel
theorem dX8_awaited_40 : decode cX8_awaited 40 = .ok (.lload 5, 2) := by decide +kernel
theorem dX8_awaited_42 : decode cX8_awaited 42 = .ok (.ldc2_w 227, 3) := by decide +kernel
theorem dX8_awaited_45 : decode cX8_awaited 45 = .ok (.lmul, 1) := by decide +kernel
theorem dX8_awaited_46 : decode cX8_awaited 46 = .ok (.lstore 5, 2) := by decide +kernel
theorem dX8_awaited_48 : decode cX8_awaited 48 = .ok (.iinc 7 1, 3) := by decide +kernel
theorem dX8_awaited_51 : decode cX8_awaited 51 = .ok (.goto (-20), 3) := by decide +kernel
theorem dX8_awaited_54 : decode cX8_awaited 54 = .ok (.iconst 0, 1) := by decide +kernel
theorem dX8_awaited_55 : decode cX8_awaited 55 = .ok (.istore 7, 2) := by decide +kernel
theorem dX8_awaited_57 : decode cX8_awaited 57 = .ok (.iload 7, 2) := by decide +kernel
theorem dX8_awaited_59 : decode cX8_awaited 59 = .ok (.iconst 1, 1) := by decide +kernel
theorem dX8_awaited_60 : decode cX8_awaited 60 = .ok (.aload_n 0, 1) := by decide +kernel
theorem dX8_awaited_61 : decode cX8_awaited 61 = .ok (.getfield 140, 3) := by decide +kernel
theorem dX8_awaited_64 : decode cX8_awaited 64 = .ok (.ishl, 1) := by decide +kernel
theorem dX8_awaited_65 : decode cX8_awaited 65 = .ok (.if_icmp .ge 85, 3) := by decide +kernel
theorem dX8_awaited_68 : decode cX8_awaited 68 = .ok (.lconst 1, 1) := by decide +kernel
theorem dX8_awaited_69 : decode cX8_awaited 69 = .ok (.lstore 8, 2) := by decide +kernel
theorem dX8_awaited_71 : decode cX8_awaited 71 = .ok (.iconst 0, 1) := by decide +kernel
theorem dX8_awaited_72 : decode cX8_awaited 72 = .ok (.istore 10, 2) := by decide +kernel
theorem dX8_awaited_74 : decode cX8_awaited 74 = .ok (.iload 10, 2) := by decide +kernel
theorem dX8_awaited_76 : decode cX8_awaited 76 = .ok (.aload_n 0, 1) := by decide +kernel
theorem dX8_awaited_77 : decode cX8_awaited 77 = .ok (.getfield 140, 3) := by decide +kernel
theorem dX8_awaited_80 : decode cX8_awaited 80 = .ok (.if_icmp .ge 35, 3) := by decide +kernel
theorem dX8_awaited_83 : decode cX8_awaited 83 = .ok (.lload 8, 2) := by decide +kernel
theorem dX8_awaited_85 : decode cX8_awaited 85 = .ok (.iload 7, 2) := by decide +kernel
theorem dX8_awaited_87 : decode cX8_awaited 87 = .ok (.iload 10, 2) := by decide +kernel
theorem dX8_awaited_89 : decode cX8_awaited 89 = .ok (.ishr, 1) := by decide +kernel
theorem dX8_awaited_90 : decode cX8_awaited 90 = .ok (.iconst 1, 1) := by decide +kernel
theorem dX8_awaited_91 : decode cX8_awaited 91 = .ok (.iand, 1) := by decide +kernel
theorem dX8_awaited_92 : decode cX8_awaited 92 = .ok (.iconst 1, 1) := by decide +kernel
theorem dX8_awaited_93 : decode cX8_awaited 93 = .ok (.if_icmp .ne 8, 3) := by decide +kernel
theorem dX8_awaited_96 : decode cX8_awaited 96 = .ok (.iload_n 1, 1) := by decide +kernel
theorem dX8_awaited_97 : decode cX8_awaited 97 = .ok (.i2l, 1) := by decide +kernel
theorem dX8_awaited_98 : decode cX8_awaited 98 = .ok (.goto 8, 3) := by decide +kernel
theorem dX8_awaited_101 : decode cX8_awaited 101 = .ok (.bipush 10, 2) := by decide +kernel
theorem dX8_awaited_103 : decode cX8_awaited 103 = .ok (.iload_n 1, 1) := by decide +kernel
theorem dX8_awaited_104 : decode cX8_awaited 104 = .ok (.isub, 1) := by decide +kernel
theorem dX8_awaited_105 : decode cX8_awaited 105 = .ok (.i2l, 1) := by decide +kernel
theorem dX8_awaited_106 : decode cX8_awaited 106 = .ok (.lmul, 1) := by decide +kernel
theorem dX8_awaited_107 : decode cX8_awaited 107 = .ok (.lstore 8, 2) := by decide +kernel
theorem dX8_awaited_109 : decode cX8_awaited 109 = .ok (.iinc 10 1, 3) := by decide +kernel
theorem dX8_awaited_112 : decode cX8_awaited 112 = .ok (.goto (-38), 3) := by decide +kernel
theorem dX8_awaited_115 : decode cX8_awaited 115 = .ok (.lload 8, 2) := by decide +kernel
theorem dX8_awaited_117 : decode cX8_awaited 117 = .ok (.lconst 0, 1) := by decide +kernel
theorem dX8_awaited_118 : decode cX8_awaited 118 = .ok (.lcmp, 1) := by decide +kernel
theorem dX8_awaited_119 : decode cX8_awaited 119 = .ok (.ifCond .eq 25, 3) := by decide +kernel
theorem dX8_awaited_122 : decode cX8_awaited 122 = .ok (.aload_n 0, 1) := by decide +kernel
theorem dX8_awaited_123 : decode cX8_awaited 123 = .ok (.aload_n 0, 1) := by decide +kernel
theorem dX8_awaited_124 : decode cX8_awaited 124 = .ok (.getfield 143, 3) := by decide +kernel
theorem dX8_awaited_127 : decode cX8_awaited 127 = .ok (.iload 7, 2) := by decide +kernel
theorem dX8_awaited_129 : decode cX8_awaited 129 = .ok (.invokevirtual 200, 3) := by decide +kernel
theorem dX8_awaited_132 : decode cX8_awaited 132 = .ok (.lload_n 3, 1) := by decide +kernel
theorem dX8_awaited_133 : decode cX8_awaited 133 = .ok (.lload 8, 2) := by decide +kernel
theorem dX8_awaited_135 : decode cX8_awaited 135 = .ok (.aload_n 0, 1) := by decide +kernel
theorem dX8_awaited_136 : decode cX8_awaited 136 = .ok (.iconst (-1), 1) := by decide +kernel
theorem dX8_awaited_137 : decode cX8_awaited 137 = .ok (.invokevirtual 212, 3) := by decide +kernel
theorem dX8_awaited_140 : decode cX8_awaited 140 = .ok (.i2l, 1) := by decide +kernel
theorem dX8_awaited_141 : decode cX8_awaited 141 = .ok (.lmul, 1) := by decide +kernel
theorem dX8_awaited_142 : decode cX8_awaited 142 = .ok (.ladd, 1) := by decide +kernel
theorem dX8_awaited_143 : decode cX8_awaited 143 = .ok (.lstore_n 3, 1) := by decide +kernel
theorem dX8_awaited_144 : decode cX8_awaited 144 = .ok (.iinc 7 1, 3) := by decide +kernel
theorem dX8_awaited_147 : decode cX8_awaited 147 = .ok (.goto (-90), 3) := by decide +kernel
theorem dX8_awaited_150 : decode cX8_awaited 150 = .ok (.lload_n 3, 1) := by decide +kernel
theorem dX8_awaited_151 : decode cX8_awaited 151 = .ok (.lload 5, 2) := by decide +kernel
theorem dX8_awaited_153 : decode cX8_awaited 153 = .ok (.iload_n 2, 1) := by decide +kernel
theorem dX8_awaited_154 : decode cX8_awaited 154 = .ok (.invokestatic 229, 3) := by decide +kernel
theorem dX8_awaited_157 : decode cX8_awaited 157 = .ok (.lreturn, 1) := by decide +kernel
set_option maxRecDepth 20000 in
theorem ggX8_layDoes_X8_mayFire : GoodIn wsX8_layDoes wsX8_mayFire := goodIn_r _ [6, 7, 8, 9, 10, 5, 11, 12, 13, 14, 15, 16, 17, 18, 19, 20, 21, 22, 23, 24, 25, 26, 27, 28, 29, 30, 31, 32, 33, 34, 35, 36, 37, 38, 39, 40, 41, 42, 43, 44, 45, 46, 47, 48, 49, 50, 51, 52, 53, 54, 55, 56] (by decide +kernel) (by decide +kernel)
set_option maxRecDepth 20000 in
theorem gX8_layDoes_X8_mayFire : GoodIn wsX8_layDoes (wsV RX8 224 RX8 yX8_mayFire wsX8_mayFire) := goodIn_app (goodIn_of _ (by decide +kernel)) ggX8_layDoes_X8_mayFire
theorem dX8_layDoes_0 : decode cX8_layDoes 0 = .ok (.iconst 0, 1) := by decide +kernel
theorem dX8_layDoes_1 : decode cX8_layDoes 1 = .ok (.istore_n 3, 1) := by decide +kernel
theorem dX8_layDoes_2 : decode cX8_layDoes 2 = .ok (.iconst 0, 1) := by decide +kernel
theorem dX8_layDoes_3 : decode cX8_layDoes 3 = .ok (.istore 4, 2) := by decide +kernel
theorem dX8_layDoes_5 : decode cX8_layDoes 5 = .ok (.iload 4, 2) := by decide +kernel
theorem dX8_layDoes_7 : decode cX8_layDoes 7 = .ok (.bipush 12, 2) := by decide +kernel
theorem dX8_layDoes_9 : decode cX8_layDoes 9 = .ok (.aload_n 0, 1) := by decide +kernel
theorem dX8_layDoes_10 : decode cX8_layDoes 10 = .ok (.getfield 110, 3) := by decide +kernel
theorem dX8_layDoes_13 : decode cX8_layDoes 13 = .ok (.imul, 1) := by decide +kernel
theorem dX8_layDoes_14 : decode cX8_layDoes 14 = .ok (.if_icmp .ge 35, 3) := by decide +kernel
theorem dX8_layDoes_17 : decode cX8_layDoes 17 = .ok (.aload_n 0, 1) := by decide +kernel
theorem dX8_layDoes_18 : decode cX8_layDoes 18 = .ok (.iload 4, 2) := by decide +kernel
theorem dX8_layDoes_20 : decode cX8_layDoes 20 = .ok (.bipush 12, 2) := by decide +kernel
theorem dX8_layDoes_22 : decode cX8_layDoes 22 = .ok (.idiv, 1) := by decide +kernel
theorem dX8_layDoes_23 : decode cX8_layDoes 23 = .ok (.iload 4, 2) := by decide +kernel
theorem dX8_layDoes_25 : decode cX8_layDoes 25 = .ok (.bipush 12, 2) := by decide +kernel
theorem dX8_layDoes_27 : decode cX8_layDoes 27 = .ok (.irem, 1) := by decide +kernel
theorem dX8_layDoes_28 : decode cX8_layDoes 28 = .ok (.iload_n 2, 1) := by decide +kernel
theorem dX8_layDoes_29 : decode cX8_layDoes 29 = .ok (.invokevirtual 224, 3) := by decide +kernel
theorem dX8_layDoes_32 : decode cX8_layDoes 32 = .ok (.ifCond .eq 11, 3) := by decide +kernel
theorem dX8_layDoes_35 : decode cX8_layDoes 35 = .ok (.aload_n 1, 1) := by decide +kernel
theorem dX8_layDoes_36 : decode cX8_layDoes 36 = .ok (.iload_n 3, 1) := by decide +kernel
theorem dX8_layDoes_37 : decode cX8_layDoes 37 = .ok (.iload 4, 2) := by decide +kernel
theorem dX8_layDoes_39 : decode cX8_layDoes 39 = .ok (.iastore, 1) := by decide +kernel
theorem dX8_layDoes_40 : decode cX8_layDoes 40 = .ok (.iinc 3 1, 3) := by decide +kernel
theorem dX8_layDoes_43 : decode cX8_layDoes 43 = .ok (.iinc 4 1, 3) := by decide +kernel
theorem dX8_layDoes_46 : decode cX8_layDoes 46 = .ok (.goto (-41), 3) := by decide +kernel
theorem dX8_layDoes_49 : decode cX8_layDoes 49 = .ok (.aload_n 1, 1) := by decide +kernel
theorem dX8_layDoes_50 : decode cX8_layDoes 50 = .ok (.iload_n 3, 1) := by decide +kernel
theorem dX8_layDoes_51 : decode cX8_layDoes 51 = .ok (.bipush 96, 2) := by decide +kernel
theorem dX8_layDoes_53 : decode cX8_layDoes 53 = .ok (.iastore, 1) := by decide +kernel
theorem dX8_layDoes_54 : decode cX8_layDoes 54 = .ok (.iload_n 3, 1) := by decide +kernel
theorem dX8_layDoes_55 : decode cX8_layDoes 55 = .ok (.iconst 1, 1) := by decide +kernel
theorem dX8_layDoes_56 : decode cX8_layDoes 56 = .ok (.iadd, 1) := by decide +kernel
theorem dX8_layDoes_57 : decode cX8_layDoes 57 = .ok (.ireturn, 1) := by decide +kernel
set_option maxRecDepth 20000 in
theorem ggX8_goDuel_X8_every : GoodIn wsX8_goDuel wsX8_every := goodIn_r _ [6] (by decide +kernel) (by decide +kernel)
set_option maxRecDepth 20000 in
theorem gX8_goDuel_X8_every : GoodIn wsX8_goDuel (va_wsS RX8 197 yX8_every wsX8_every) := goodIn_app (goodIn_of _ (by decide +kernel)) ggX8_goDuel_X8_every
set_option maxRecDepth 20000 in
theorem ggX8_goDuel_X8_layShot : GoodIn wsX8_goDuel wsX8_layShot := goodIn_r _ [10, 11, 12, 13, 14, 55, 56, 57, 58, 59, 60, 61, 62, 63, 64, 65, 66, 67, 68, 69, 70, 71, 72, 73, 74, 75, 76, 77, 78, 79, 80, 81, 82, 83, 84, 85, 86, 87, 88, 89, 90, 91, 92, 93, 94, 95, 96, 97, 98] (by decide +kernel) (by decide +kernel)
set_option maxRecDepth 20000 in
theorem gX8_goDuel_X8_layShot : GoodIn wsX8_goDuel (wsV RX8 170 RX8 yX8_layShot wsX8_layShot) := goodIn_app (goodIn_of _ (by decide +kernel)) ggX8_goDuel_X8_layShot
set_option maxRecDepth 20000 in
theorem ggX8_goDuel_X8_goDay : GoodIn wsX8_goDuel wsX8_goDay := goodIn_r _ [18, 19, 20, 21, 22, 23, 24, 25, 26, 27, 28, 29, 30, 31, 32, 5, 33, 34, 35, 36, 13, 37, 38, 39, 40, 41, 42, 43, 44, 45, 46, 47, 48, 49, 50, 12, 14, 11, 51, 52, 53, 54, 55, 56, 57, 58, 59, 60, 61, 62, 63, 64, 65, 66, 67, 68, 69, 70, 71, 72, 73, 74, 75, 76, 77, 78, 79, 80, 81, 82, 83, 84, 85, 86, 87, 88, 89, 90, 91, 92, 93, 94, 95, 96, 97, 98] (by decide +kernel) (by decide +kernel)
set_option maxRecDepth 20000 in
theorem gX8_goDuel_X8_goDay : GoodIn wsX8_goDuel (wsV RX8 200 RX8 yX8_goDay wsX8_goDay) := goodIn_app (goodIn_of _ (by decide +kernel)) ggX8_goDuel_X8_goDay
theorem dX8_goDuel_0 : decode cX8_goDuel 0 = .ok (.aload_n 0, 1) := by decide +kernel
theorem dX8_goDuel_1 : decode cX8_goDuel 1 = .ok (.getfield 140, 3) := by decide +kernel
theorem dX8_goDuel_4 : decode cX8_goDuel 4 = .ok (.invokestatic 197, 3) := by decide +kernel
theorem dX8_goDuel_7 : decode cX8_goDuel 7 = .ok (.istore 4, 2) := by decide +kernel
theorem dX8_goDuel_9 : decode cX8_goDuel 9 = .ok (.iload_n 1, 1) := by decide +kernel
theorem dX8_goDuel_10 : decode cX8_goDuel 10 = .ok (.bipush 96, 2) := by decide +kernel
theorem dX8_goDuel_12 : decode cX8_goDuel 12 = .ok (.if_icmp .eq 32, 3) := by decide +kernel
theorem dX8_goDuel_15 : decode cX8_goDuel 15 = .ok (.aload_n 0, 1) := by decide +kernel
theorem dX8_goDuel_16 : decode cX8_goDuel 16 = .ok (.aload_n 0, 1) := by decide +kernel
theorem dX8_goDuel_17 : decode cX8_goDuel 17 = .ok (.getfield 140, 3) := by decide +kernel
theorem dX8_goDuel_20 : decode cX8_goDuel 20 = .ok (.iconst 0, 1) := by decide +kernel
theorem dX8_goDuel_21 : decode cX8_goDuel 21 = .ok (.iload_n 1, 1) := by decide +kernel
theorem dX8_goDuel_22 : decode cX8_goDuel 22 = .ok (.bipush 12, 2) := by decide +kernel
theorem dX8_goDuel_24 : decode cX8_goDuel 24 = .ok (.idiv, 1) := by decide +kernel
theorem dX8_goDuel_25 : decode cX8_goDuel 25 = .ok (.iload_n 1, 1) := by decide +kernel
theorem dX8_goDuel_26 : decode cX8_goDuel 26 = .ok (.bipush 12, 2) := by decide +kernel
theorem dX8_goDuel_28 : decode cX8_goDuel 28 = .ok (.irem, 1) := by decide +kernel
theorem dX8_goDuel_29 : decode cX8_goDuel 29 = .ok (.iload_n 3, 1) := by decide +kernel
theorem dX8_goDuel_30 : decode cX8_goDuel 30 = .ok (.invokevirtual 170, 3) := by decide +kernel
theorem dX8_goDuel_33 : decode cX8_goDuel 33 = .ok (.iload 4, 2) := by decide +kernel
theorem dX8_goDuel_35 : decode cX8_goDuel 35 = .ok (.iconst 1, 1) := by decide +kernel
theorem dX8_goDuel_36 : decode cX8_goDuel 36 = .ok (.aload_n 0, 1) := by decide +kernel
theorem dX8_goDuel_37 : decode cX8_goDuel 37 = .ok (.getfield 140, 3) := by decide +kernel
theorem dX8_goDuel_40 : decode cX8_goDuel 40 = .ok (.ishl, 1) := by decide +kernel
theorem dX8_goDuel_41 : decode cX8_goDuel 41 = .ok (.ior, 1) := by decide +kernel
theorem dX8_goDuel_42 : decode cX8_goDuel 42 = .ok (.istore 4, 2) := by decide +kernel
theorem dX8_goDuel_44 : decode cX8_goDuel 44 = .ok (.iload_n 2, 1) := by decide +kernel
theorem dX8_goDuel_45 : decode cX8_goDuel 45 = .ok (.bipush 96, 2) := by decide +kernel
theorem dX8_goDuel_47 : decode cX8_goDuel 47 = .ok (.if_icmp .eq 34, 3) := by decide +kernel
theorem dX8_goDuel_50 : decode cX8_goDuel 50 = .ok (.aload_n 0, 1) := by decide +kernel
theorem dX8_goDuel_51 : decode cX8_goDuel 51 = .ok (.aload_n 0, 1) := by decide +kernel
theorem dX8_goDuel_52 : decode cX8_goDuel 52 = .ok (.getfield 140, 3) := by decide +kernel
theorem dX8_goDuel_55 : decode cX8_goDuel 55 = .ok (.iconst 1, 1) := by decide +kernel
theorem dX8_goDuel_56 : decode cX8_goDuel 56 = .ok (.iadd, 1) := by decide +kernel
theorem dX8_goDuel_57 : decode cX8_goDuel 57 = .ok (.iconst 0, 1) := by decide +kernel
theorem dX8_goDuel_58 : decode cX8_goDuel 58 = .ok (.iload_n 2, 1) := by decide +kernel
theorem dX8_goDuel_59 : decode cX8_goDuel 59 = .ok (.bipush 12, 2) := by decide +kernel
theorem dX8_goDuel_61 : decode cX8_goDuel 61 = .ok (.idiv, 1) := by decide +kernel
theorem dX8_goDuel_62 : decode cX8_goDuel 62 = .ok (.iload_n 2, 1) := by decide +kernel
theorem dX8_goDuel_63 : decode cX8_goDuel 63 = .ok (.bipush 12, 2) := by decide +kernel
theorem dX8_goDuel_65 : decode cX8_goDuel 65 = .ok (.irem, 1) := by decide +kernel
theorem dX8_goDuel_66 : decode cX8_goDuel 66 = .ok (.iload_n 3, 1) := by decide +kernel
theorem dX8_goDuel_67 : decode cX8_goDuel 67 = .ok (.invokevirtual 170, 3) := by decide +kernel
theorem dX8_goDuel_70 : decode cX8_goDuel 70 = .ok (.iload 4, 2) := by decide +kernel
theorem dX8_goDuel_72 : decode cX8_goDuel 72 = .ok (.iconst 2, 1) := by decide +kernel
theorem dX8_goDuel_73 : decode cX8_goDuel 73 = .ok (.aload_n 0, 1) := by decide +kernel
theorem dX8_goDuel_74 : decode cX8_goDuel 74 = .ok (.getfield 140, 3) := by decide +kernel
theorem dX8_goDuel_77 : decode cX8_goDuel 77 = .ok (.ishl, 1) := by decide +kernel
theorem dX8_goDuel_78 : decode cX8_goDuel 78 = .ok (.ior, 1) := by decide +kernel
theorem dX8_goDuel_79 : decode cX8_goDuel 79 = .ok (.istore 4, 2) := by decide +kernel
theorem dX8_goDuel_81 : decode cX8_goDuel 81 = .ok (.aload_n 0, 1) := by decide +kernel
theorem dX8_goDuel_82 : decode cX8_goDuel 82 = .ok (.aload_n 0, 1) := by decide +kernel
theorem dX8_goDuel_83 : decode cX8_goDuel 83 = .ok (.getfield 143, 3) := by decide +kernel
theorem dX8_goDuel_86 : decode cX8_goDuel 86 = .ok (.iload 4, 2) := by decide +kernel
theorem dX8_goDuel_88 : decode cX8_goDuel 88 = .ok (.invokevirtual 200, 3) := by decide +kernel
theorem dX8_goDuel_91 : decode cX8_goDuel 91 = .ok (.return_, 1) := by decide +kernel
theorem dX8_rest_0 : decode cX8_rest 0 = .ok (.iconst 0, 1) := by decide +kernel
theorem dX8_rest_1 : decode cX8_rest 1 = .ok (.istore_n 3, 1) := by decide +kernel
theorem dX8_rest_2 : decode cX8_rest 2 = .ok (.iload_n 3, 1) := by decide +kernel
theorem dX8_rest_3 : decode cX8_rest 3 = .ok (.aload_n 0, 1) := by decide +kernel
theorem dX8_rest_4 : decode cX8_rest 4 = .ok (.getfield 233, 3) := by decide +kernel
theorem dX8_rest_7 : decode cX8_rest 7 = .ok (.if_icmp .ge 40, 3) := by decide +kernel
theorem dX8_rest_10 : decode cX8_rest 10 = .ok (.aload_n 0, 1) := by decide +kernel
theorem dX8_rest_11 : decode cX8_rest 11 = .ok (.getfield 94, 3) := by decide +kernel
theorem dX8_rest_14 : decode cX8_rest 14 = .ok (.aload_n 0, 1) := by decide +kernel
theorem dX8_rest_15 : decode cX8_rest 15 = .ok (.getfield 236, 3) := by decide +kernel
theorem dX8_rest_18 : decode cX8_rest 18 = .ok (.iload_n 3, 1) := by decide +kernel
theorem dX8_rest_19 : decode cX8_rest 19 = .ok (.imul, 1) := by decide +kernel
theorem dX8_rest_20 : decode cX8_rest 20 = .ok (.iload_n 2, 1) := by decide +kernel
theorem dX8_rest_21 : decode cX8_rest 21 = .ok (.iadd, 1) := by decide +kernel
theorem dX8_rest_22 : decode cX8_rest 22 = .ok (.iaload, 1) := by decide +kernel
theorem dX8_rest_23 : decode cX8_rest 23 = .ok (.aload_n 0, 1) := by decide +kernel
theorem dX8_rest_24 : decode cX8_rest 24 = .ok (.getfield 94, 3) := by decide +kernel
theorem dX8_rest_27 : decode cX8_rest 27 = .ok (.aload_n 0, 1) := by decide +kernel
theorem dX8_rest_28 : decode cX8_rest 28 = .ok (.getfield 236, 3) := by decide +kernel
theorem dX8_rest_31 : decode cX8_rest 31 = .ok (.iload_n 1, 1) := by decide +kernel
theorem dX8_rest_32 : decode cX8_rest 32 = .ok (.imul, 1) := by decide +kernel
theorem dX8_rest_33 : decode cX8_rest 33 = .ok (.iload_n 2, 1) := by decide +kernel
theorem dX8_rest_34 : decode cX8_rest 34 = .ok (.iadd, 1) := by decide +kernel
theorem dX8_rest_35 : decode cX8_rest 35 = .ok (.iaload, 1) := by decide +kernel
theorem dX8_rest_36 : decode cX8_rest 36 = .ok (.if_icmp .le 5, 3) := by decide +kernel
theorem dX8_rest_39 : decode cX8_rest 39 = .ok (.iconst 0, 1) := by decide +kernel
theorem dX8_rest_40 : decode cX8_rest 40 = .ok (.ireturn, 1) := by decide +kernel
theorem dX8_rest_41 : decode cX8_rest 41 = .ok (.iinc 3 1, 3) := by decide +kernel
theorem dX8_rest_44 : decode cX8_rest 44 = .ok (.goto (-42), 3) := by decide +kernel
theorem dX8_rest_47 : decode cX8_rest 47 = .ok (.iconst 0, 1) := by decide +kernel
theorem dX8_rest_48 : decode cX8_rest 48 = .ok (.istore_n 3, 1) := by decide +kernel
theorem dX8_rest_49 : decode cX8_rest 49 = .ok (.iload_n 3, 1) := by decide +kernel
theorem dX8_rest_50 : decode cX8_rest 50 = .ok (.aload_n 0, 1) := by decide +kernel
theorem dX8_rest_51 : decode cX8_rest 51 = .ok (.getfield 236, 3) := by decide +kernel
theorem dX8_rest_54 : decode cX8_rest 54 = .ok (.if_icmp .ge 40, 3) := by decide +kernel
theorem dX8_rest_57 : decode cX8_rest 57 = .ok (.aload_n 0, 1) := by decide +kernel
theorem dX8_rest_58 : decode cX8_rest 58 = .ok (.getfield 97, 3) := by decide +kernel
theorem dX8_rest_61 : decode cX8_rest 61 = .ok (.aload_n 0, 1) := by decide +kernel
theorem dX8_rest_62 : decode cX8_rest 62 = .ok (.getfield 236, 3) := by decide +kernel
theorem dX8_rest_65 : decode cX8_rest 65 = .ok (.iload_n 1, 1) := by decide +kernel
theorem dX8_rest_66 : decode cX8_rest 66 = .ok (.imul, 1) := by decide +kernel
theorem dX8_rest_67 : decode cX8_rest 67 = .ok (.iload_n 3, 1) := by decide +kernel
theorem dX8_rest_68 : decode cX8_rest 68 = .ok (.iadd, 1) := by decide +kernel
theorem dX8_rest_69 : decode cX8_rest 69 = .ok (.iaload, 1) := by decide +kernel
theorem dX8_rest_70 : decode cX8_rest 70 = .ok (.aload_n 0, 1) := by decide +kernel
theorem dX8_rest_71 : decode cX8_rest 71 = .ok (.getfield 97, 3) := by decide +kernel
theorem dX8_rest_74 : decode cX8_rest 74 = .ok (.aload_n 0, 1) := by decide +kernel
theorem dX8_rest_75 : decode cX8_rest 75 = .ok (.getfield 236, 3) := by decide +kernel
theorem dX8_rest_78 : decode cX8_rest 78 = .ok (.iload_n 1, 1) := by decide +kernel
theorem dX8_rest_79 : decode cX8_rest 79 = .ok (.imul, 1) := by decide +kernel
theorem dX8_rest_80 : decode cX8_rest 80 = .ok (.iload_n 2, 1) := by decide +kernel
theorem dX8_rest_81 : decode cX8_rest 81 = .ok (.iadd, 1) := by decide +kernel
theorem dX8_rest_82 : decode cX8_rest 82 = .ok (.iaload, 1) := by decide +kernel
theorem dX8_rest_83 : decode cX8_rest 83 = .ok (.if_icmp .le 5, 3) := by decide +kernel
theorem dX8_rest_86 : decode cX8_rest 86 = .ok (.iconst 0, 1) := by decide +kernel
theorem dX8_rest_87 : decode cX8_rest 87 = .ok (.ireturn, 1) := by decide +kernel
theorem dX8_rest_88 : decode cX8_rest 88 = .ok (.iinc 3 1, 3) := by decide +kernel
theorem dX8_rest_91 : decode cX8_rest 91 = .ok (.goto (-42), 3) := by decide +kernel
theorem dX8_rest_94 : decode cX8_rest 94 = .ok (.iconst 1, 1) := by decide +kernel
theorem dX8_rest_95 : decode cX8_rest 95 = .ok (.ireturn, 1) := by decide +kernel
set_option maxRecDepth 20000 in
theorem ggX8_rests_X8_isClub : GoodIn wsX8_rests wsX8_isClub := goodIn_r _ [10, 11, 12, 9, 13] (by decide +kernel) (by decide +kernel)
set_option maxRecDepth 20000 in
theorem gX8_rests_X8_isClub : GoodIn wsX8_rests (va_wsS RX8 209 yX8_isClub wsX8_isClub) := goodIn_app (goodIn_of _ (by decide +kernel)) ggX8_rests_X8_isClub
set_option maxRecDepth 20000 in
theorem ggX8_rests_X8_within : GoodIn wsX8_rests wsX8_within := goodIn_r _ [13] (by decide +kernel) (by decide +kernel)
set_option maxRecDepth 20000 in
theorem gX8_rests_X8_within : GoodIn wsX8_rests (va_wsS RX8 106 yX8_within wsX8_within) := goodIn_app (goodIn_of _ (by decide +kernel)) ggX8_rests_X8_within
set_option maxRecDepth 20000 in
theorem ggX8_rests_X8_isPlain : GoodIn wsX8_rests wsX8_isPlain := goodIn_r _ [17, 18, 103, 104, 105, 106, 107, 108, 109, 110, 111, 112, 113, 114, 115, 116, 117, 118, 119, 120, 121, 122, 123, 124, 125, 126, 127, 128, 129, 130, 131, 132, 133, 134, 135, 136, 137, 138, 139, 140, 141, 142, 143, 144, 145, 146] (by decide +kernel) (by decide +kernel)
set_option maxRecDepth 20000 in
theorem gX8_rests_X8_isPlain : GoodIn wsX8_rests (wsV RX8 163 RX8 yX8_isPlain wsX8_isPlain) := goodIn_app (goodIn_of _ (by decide +kernel)) ggX8_rests_X8_isPlain
set_option maxRecDepth 20000 in
theorem ggX8_rests_X8_layDoes : GoodIn wsX8_rests wsX8_layDoes := goodIn_r _ [22, 18, 23, 24, 25, 9, 26, 27, 28, 29, 30, 31, 32, 103, 104, 105, 106, 107, 108, 109, 110, 111, 112, 113, 114, 115, 116, 117, 118, 119, 120, 121, 122, 123, 124, 125, 126, 127, 128, 129, 130, 131, 132, 133, 134, 135, 136, 137, 138, 139, 140, 141, 142, 143, 144, 145, 146] (by decide +kernel) (by decide +kernel)
set_option maxRecDepth 20000 in
theorem gX8_rests_X8_layDoes : GoodIn wsX8_rests (wsV RX8 239 RX8 yX8_layDoes wsX8_layDoes) := goodIn_app (goodIn_of _ (by decide +kernel)) ggX8_rests_X8_layDoes
set_option maxRecDepth 20000 in
theorem ggX8_rests_X8_goDuel : GoodIn wsX8_rests wsX8_goDuel := goodIn_r _ [36, 37, 38, 39, 40, 9, 41, 42, 43, 44, 45, 46, 47, 48, 49, 50, 51, 52, 53, 54, 55, 56, 57, 58, 59, 60, 61, 62, 63, 64, 65, 66, 67, 68, 69, 70, 71, 72, 73, 74, 75, 76, 77, 78, 79, 80, 18, 81, 82, 83, 84, 85, 86, 87, 88, 103, 104, 105, 106, 107, 108, 109, 110, 111, 112, 113, 114, 115, 116, 117, 118, 119, 120, 121, 122, 123, 124, 125, 126, 127, 128, 129, 130, 131, 132, 133, 134, 135, 136, 137, 138, 139, 140, 141, 142, 143, 144, 145, 146] (by decide +kernel) (by decide +kernel)
set_option maxRecDepth 20000 in
theorem gX8_rests_X8_goDuel : GoodIn wsX8_rests (wsV RX8 243 RX8 yX8_goDuel wsX8_goDuel) := goodIn_app (goodIn_of _ (by decide +kernel)) ggX8_rests_X8_goDuel
set_option maxRecDepth 20000 in
theorem ggX8_rests_X8_yieldTo : GoodIn wsX8_rests wsX8_yieldTo := goodIn_r _ [92, 18, 27, 93, 94, 95, 9, 96, 59, 97, 98, 60, 103, 104, 105, 106, 107, 108, 109, 110, 111, 112, 113, 114, 115, 116, 117, 118, 119, 120, 121, 122, 123, 124, 125, 126, 127, 128, 129, 130, 131, 132, 133, 134, 135, 136, 137, 138, 139, 140, 141, 142, 143, 144, 145, 146] (by decide +kernel) (by decide +kernel)
set_option maxRecDepth 20000 in
theorem gX8_rests_X8_yieldTo : GoodIn wsX8_rests (wsV RX8 212 RX8 yX8_yieldTo wsX8_yieldTo) := goodIn_app (goodIn_of _ (by decide +kernel)) ggX8_rests_X8_yieldTo
set_option maxRecDepth 20000 in
theorem ggX8_rests_X8_rest : GoodIn wsX8_rests wsX8_rest := goodIn_r _ [102, 2, 5, 4, 6, 103, 104, 105, 106, 107, 108, 109, 110, 111, 112, 113, 114, 115, 116, 117, 118, 119, 120, 121, 122, 123, 124, 125, 126, 127, 128, 129, 130, 131, 132, 133, 134, 135, 136, 137, 138, 139, 140, 141, 142, 143, 144, 145, 146] (by decide +kernel) (by decide +kernel)
set_option maxRecDepth 20000 in
theorem gX8_rests_X8_rest : GoodIn wsX8_rests (wsV RX8 247 RX8 yX8_rest wsX8_rest) := goodIn_app (goodIn_of _ (by decide +kernel)) ggX8_rests_X8_rest
theorem dX8_rests_0 : decode cX8_rests 0 = .ok (.iload_n 1, 1) := by decide +kernel
theorem dX8_rests_1 : decode cX8_rests 1 = .ok (.invokestatic 209, 3) := by decide +kernel
theorem dX8_rests_4 : decode cX8_rests 4 = .ok (.ifCond .eq 15, 3) := by decide +kernel
theorem dX8_rests_7 : decode cX8_rests 7 = .ok (.iload_n 2, 1) := by decide +kernel
theorem dX8_rests_8 : decode cX8_rests 8 = .ok (.invokestatic 209, 3) := by decide +kernel
theorem dX8_rests_11 : decode cX8_rests 11 = .ok (.ifCond .eq 8, 3) := by decide +kernel
theorem dX8_rests_14 : decode cX8_rests 14 = .ok (.iload_n 1, 1) := by decide +kernel
theorem dX8_rests_15 : decode cX8_rests 15 = .ok (.iload_n 2, 1) := by decide +kernel
theorem dX8_rests_16 : decode cX8_rests 16 = .ok (.if_icmp .ne 5, 3) := by decide +kernel
theorem dX8_rests_19 : decode cX8_rests 19 = .ok (.iconst (-1), 1) := by decide +kernel
theorem dX8_rests_20 : decode cX8_rests 20 = .ok (.ireturn, 1) := by decide +kernel
theorem dX8_rests_21 : decode cX8_rests 21 = .ok (.iload_n 3, 1) := by decide +kernel
theorem dX8_rests_22 : decode cX8_rests 22 = .ok (.iconst 1, 1) := by decide +kernel
theorem dX8_rests_23 : decode cX8_rests 23 = .ok (.bipush 9, 2) := by decide +kernel
theorem dX8_rests_25 : decode cX8_rests 25 = .ok (.invokestatic 106, 3) := by decide +kernel
theorem dX8_rests_28 : decode cX8_rests 28 = .ok (.ifCond .eq 13, 3) := by decide +kernel
theorem dX8_rests_31 : decode cX8_rests 31 = .ok (.iload 4, 2) := by decide +kernel
theorem dX8_rests_33 : decode cX8_rests 33 = .ok (.iconst 0, 1) := by decide +kernel
theorem dX8_rests_34 : decode cX8_rests 34 = .ok (.iconst 1, 1) := by decide +kernel
theorem dX8_rests_35 : decode cX8_rests 35 = .ok (.invokestatic 106, 3) := by decide +kernel
theorem dX8_rests_38 : decode cX8_rests 38 = .ok (.ifCond .ne 6, 3) := by decide +kernel
theorem dX8_rests_41 : decode cX8_rests 41 = .ok (.bipush (-2), 2) := by decide +kernel
theorem dX8_rests_43 : decode cX8_rests 43 = .ok (.ireturn, 1) := by decide +kernel
theorem dX8_rests_44 : decode cX8_rests 44 = .ok (.aload_n 0, 1) := by decide +kernel
theorem dX8_rests_45 : decode cX8_rests 45 = .ok (.invokevirtual 163, 3) := by decide +kernel
theorem dX8_rests_48 : decode cX8_rests 48 = .ok (.ifCond .ne 6, 3) := by decide +kernel
theorem dX8_rests_51 : decode cX8_rests 51 = .ok (.bipush (-3), 2) := by decide +kernel
theorem dX8_rests_53 : decode cX8_rests 53 = .ok (.ireturn, 1) := by decide +kernel
theorem dX8_rests_54 : decode cX8_rests 54 = .ok (.aload_n 0, 1) := by decide +kernel
theorem dX8_rests_55 : decode cX8_rests 55 = .ok (.aload_n 0, 1) := by decide +kernel
theorem dX8_rests_56 : decode cX8_rests 56 = .ok (.aload_n 0, 1) := by decide +kernel
theorem dX8_rests_57 : decode cX8_rests 57 = .ok (.getfield 88, 3) := by decide +kernel
theorem dX8_rests_60 : decode cX8_rests 60 = .ok (.iload_n 1, 1) := by decide +kernel
theorem dX8_rests_61 : decode cX8_rests 61 = .ok (.invokevirtual 239, 3) := by decide +kernel
theorem dX8_rests_64 : decode cX8_rests 64 = .ok (.putfield 233, 3) := by decide +kernel
theorem dX8_rests_67 : decode cX8_rests 67 = .ok (.aload_n 0, 1) := by decide +kernel
theorem dX8_rests_68 : decode cX8_rests 68 = .ok (.aload_n 0, 1) := by decide +kernel
theorem dX8_rests_69 : decode cX8_rests 69 = .ok (.aload_n 0, 1) := by decide +kernel
theorem dX8_rests_70 : decode cX8_rests 70 = .ok (.getfield 91, 3) := by decide +kernel
theorem dX8_rests_73 : decode cX8_rests 73 = .ok (.iload_n 2, 1) := by decide +kernel
theorem dX8_rests_74 : decode cX8_rests 74 = .ok (.invokevirtual 239, 3) := by decide +kernel
theorem dX8_rests_77 : decode cX8_rests 77 = .ok (.putfield 236, 3) := by decide +kernel
theorem dX8_rests_80 : decode cX8_rests 80 = .ok (.iconst 0, 1) := by decide +kernel
theorem dX8_rests_81 : decode cX8_rests 81 = .ok (.istore 5, 2) := by decide +kernel
theorem dX8_rests_83 : decode cX8_rests 83 = .ok (.iload 5, 2) := by decide +kernel
theorem dX8_rests_85 : decode cX8_rests 85 = .ok (.aload_n 0, 1) := by decide +kernel
theorem dX8_rests_86 : decode cX8_rests 86 = .ok (.getfield 233, 3) := by decide +kernel
theorem dX8_rests_89 : decode cX8_rests 89 = .ok (.if_icmp .ge 86, 3) := by decide +kernel
theorem dX8_rests_92 : decode cX8_rests 92 = .ok (.iconst 0, 1) := by decide +kernel
theorem dX8_rests_93 : decode cX8_rests 93 = .ok (.istore 6, 2) := by decide +kernel
theorem dX8_rests_95 : decode cX8_rests 95 = .ok (.iload 6, 2) := by decide +kernel
theorem dX8_rests_97 : decode cX8_rests 97 = .ok (.aload_n 0, 1) := by decide +kernel
theorem dX8_rests_98 : decode cX8_rests 98 = .ok (.getfield 236, 3) := by decide +kernel
theorem dX8_rests_101 : decode cX8_rests 101 = .ok (.if_icmp .ge 68, 3) := by decide +kernel
theorem dX8_rests_104 : decode cX8_rests 104 = .ok (.aload_n 0, 1) := by decide +kernel
theorem dX8_rests_105 : decode cX8_rests 105 = .ok (.aload_n 0, 1) := by decide +kernel
theorem dX8_rests_106 : decode cX8_rests 106 = .ok (.getfield 88, 3) := by decide +kernel
theorem dX8_rests_109 : decode cX8_rests 109 = .ok (.iload 5, 2) := by decide +kernel
theorem dX8_rests_111 : decode cX8_rests 111 = .ok (.iaload, 1) := by decide +kernel
theorem dX8_rests_112 : decode cX8_rests 112 = .ok (.aload_n 0, 1) := by decide +kernel
theorem dX8_rests_113 : decode cX8_rests 113 = .ok (.getfield 91, 3) := by decide +kernel
theorem dX8_rests_116 : decode cX8_rests 116 = .ok (.iload 6, 2) := by decide +kernel
theorem dX8_rests_118 : decode cX8_rests 118 = .ok (.iaload, 1) := by decide +kernel
theorem dX8_rests_119 : decode cX8_rests 119 = .ok (.iload_n 3, 1) := by decide +kernel
theorem dX8_rests_120 : decode cX8_rests 120 = .ok (.invokevirtual 243, 3) := by decide +kernel
theorem dX8_rests_123 : decode cX8_rests 123 = .ok (.aload_n 0, 1) := by decide +kernel
theorem dX8_rests_124 : decode cX8_rests 124 = .ok (.getfield 94, 3) := by decide +kernel
theorem dX8_rests_127 : decode cX8_rests 127 = .ok (.aload_n 0, 1) := by decide +kernel
theorem dX8_rests_128 : decode cX8_rests 128 = .ok (.getfield 236, 3) := by decide +kernel
theorem dX8_rests_131 : decode cX8_rests 131 = .ok (.iload 5, 2) := by decide +kernel
theorem dX8_rests_133 : decode cX8_rests 133 = .ok (.imul, 1) := by decide +kernel
theorem dX8_rests_134 : decode cX8_rests 134 = .ok (.iload 6, 2) := by decide +kernel
theorem dX8_rests_136 : decode cX8_rests 136 = .ok (.iadd, 1) := by decide +kernel
theorem dX8_rests_137 : decode cX8_rests 137 = .ok (.aload_n 0, 1) := by decide +kernel
theorem dX8_rests_138 : decode cX8_rests 138 = .ok (.iload_n 1, 1) := by decide +kernel
theorem dX8_rests_139 : decode cX8_rests 139 = .ok (.invokevirtual 212, 3) := by decide +kernel
theorem dX8_rests_142 : decode cX8_rests 142 = .ok (.iastore, 1) := by decide +kernel
theorem dX8_rests_143 : decode cX8_rests 143 = .ok (.aload_n 0, 1) := by decide +kernel
theorem dX8_rests_144 : decode cX8_rests 144 = .ok (.getfield 97, 3) := by decide +kernel
theorem dX8_rests_147 : decode cX8_rests 147 = .ok (.aload_n 0, 1) := by decide +kernel
theorem dX8_rests_148 : decode cX8_rests 148 = .ok (.getfield 236, 3) := by decide +kernel
theorem dX8_rests_151 : decode cX8_rests 151 = .ok (.iload 5, 2) := by decide +kernel
theorem dX8_rests_153 : decode cX8_rests 153 = .ok (.imul, 1) := by decide +kernel
theorem dX8_rests_154 : decode cX8_rests 154 = .ok (.iload 6, 2) := by decide +kernel
theorem dX8_rests_156 : decode cX8_rests 156 = .ok (.iadd, 1) := by decide +kernel
theorem dX8_rests_157 : decode cX8_rests 157 = .ok (.aload_n 0, 1) := by decide +kernel
theorem dX8_rests_158 : decode cX8_rests 158 = .ok (.iload_n 2, 1) := by decide +kernel
theorem dX8_rests_159 : decode cX8_rests 159 = .ok (.invokevirtual 212, 3) := by decide +kernel
theorem dX8_rests_162 : decode cX8_rests 162 = .ok (.iastore, 1) := by decide +kernel
theorem dX8_rests_163 : decode cX8_rests 163 = .ok (.iinc 6 1, 3) := by decide +kernel
theorem dX8_rests_166 : decode cX8_rests 166 = .ok (.goto (-71), 3) := by decide +kernel
theorem dX8_rests_169 : decode cX8_rests 169 = .ok (.iinc 5 1, 3) := by decide +kernel
theorem dX8_rests_172 : decode cX8_rests 172 = .ok (.goto (-89), 3) := by decide +kernel
theorem dX8_rests_175 : decode cX8_rests 175 = .ok (.iconst 0, 1) := by decide +kernel
theorem dX8_rests_176 : decode cX8_rests 176 = .ok (.istore 5, 2) := by decide +kernel
theorem dX8_rests_178 : decode cX8_rests 178 = .ok (.bipush (-9), 2) := by decide +kernel
theorem dX8_rests_180 : decode cX8_rests 180 = .ok (.istore 6, 2) := by decide +kernel
theorem dX8_rests_182 : decode cX8_rests 182 = .ok (.iconst 0, 1) := by decide +kernel
theorem dX8_rests_183 : decode cX8_rests 183 = .ok (.istore 7, 2) := by decide +kernel
theorem dX8_rests_185 : decode cX8_rests 185 = .ok (.iload 7, 2) := by decide +kernel
theorem dX8_rests_187 : decode cX8_rests 187 = .ok (.aload_n 0, 1) := by decide +kernel
theorem dX8_rests_188 : decode cX8_rests 188 = .ok (.getfield 233, 3) := by decide +kernel
theorem dX8_rests_191 : decode cX8_rests 191 = .ok (.if_icmp .ge 73, 3) := by decide +kernel
theorem dX8_rests_194 : decode cX8_rests 194 = .ok (.iconst 0, 1) := by decide +kernel
theorem dX8_rests_195 : decode cX8_rests 195 = .ok (.istore 8, 2) := by decide +kernel
theorem dX8_rests_197 : decode cX8_rests 197 = .ok (.iload 8, 2) := by decide +kernel
theorem dX8_rests_199 : decode cX8_rests 199 = .ok (.aload_n 0, 1) := by decide +kernel
theorem dX8_rests_200 : decode cX8_rests 200 = .ok (.getfield 236, 3) := by decide +kernel
theorem dX8_rests_203 : decode cX8_rests 203 = .ok (.if_icmp .ge 55, 3) := by decide +kernel
theorem dX8_rests_206 : decode cX8_rests 206 = .ok (.aload_n 0, 1) := by decide +kernel
theorem dX8_rests_207 : decode cX8_rests 207 = .ok (.iload 7, 2) := by decide +kernel
theorem dX8_rests_209 : decode cX8_rests 209 = .ok (.iload 8, 2) := by decide +kernel
theorem dX8_rests_211 : decode cX8_rests 211 = .ok (.invokevirtual 247, 3) := by decide +kernel
theorem dX8_rests_214 : decode cX8_rests 214 = .ok (.ifCond .eq 38, 3) := by decide +kernel
theorem dX8_rests_217 : decode cX8_rests 217 = .ok (.iinc 5 1, 3) := by decide +kernel
theorem dX8_rests_220 : decode cX8_rests 220 = .ok (.iload 6, 2) := by decide +kernel
theorem dX8_rests_222 : decode cX8_rests 222 = .ok (.bipush (-9), 2) := by decide +kernel
theorem dX8_rests_224 : decode cX8_rests 224 = .ok (.if_icmp .ne 24, 3) := by decide +kernel
theorem dX8_rests_227 : decode cX8_rests 227 = .ok (.bipush 100, 2) := by decide +kernel
theorem dX8_rests_229 : decode cX8_rests 229 = .ok (.aload_n 0, 1) := by decide +kernel
theorem dX8_rests_230 : decode cX8_rests 230 = .ok (.getfield 88, 3) := by decide +kernel
theorem dX8_rests_233 : decode cX8_rests 233 = .ok (.iload 7, 2) := by decide +kernel
theorem dX8_rests_235 : decode cX8_rests 235 = .ok (.iaload, 1) := by decide +kernel
theorem dX8_rests_236 : decode cX8_rests 236 = .ok (.imul, 1) := by decide +kernel
theorem dX8_rests_237 : decode cX8_rests 237 = .ok (.aload_n 0, 1) := by decide +kernel
theorem dX8_rests_238 : decode cX8_rests 238 = .ok (.getfield 91, 3) := by decide +kernel
theorem dX8_rests_241 : decode cX8_rests 241 = .ok (.iload 8, 2) := by decide +kernel
theorem dX8_rests_243 : decode cX8_rests 243 = .ok (.iaload, 1) := by decide +kernel
theorem dX8_rests_244 : decode cX8_rests 244 = .ok (.iadd, 1) := by decide +kernel
theorem dX8_rests_245 : decode cX8_rests 245 = .ok (.goto 5, 3) := by decide +kernel
theorem dX8_rests_248 : decode cX8_rests 248 = .ok (.iload 6, 2) := by decide +kernel
theorem dX8_rests_250 : decode cX8_rests 250 = .ok (.istore 6, 2) := by decide +kernel
theorem dX8_rests_252 : decode cX8_rests 252 = .ok (.iinc 8 1, 3) := by decide +kernel
theorem dX8_rests_255 : decode cX8_rests 255 = .ok (.goto (-58), 3) := by decide +kernel
theorem dX8_rests_258 : decode cX8_rests 258 = .ok (.iinc 7 1, 3) := by decide +kernel
theorem dX8_rests_261 : decode cX8_rests 261 = .ok (.goto (-76), 3) := by decide +kernel
theorem dX8_rests_264 : decode cX8_rests 264 = .ok (.iload 4, 2) := by decide +kernel
theorem dX8_rests_266 : decode cX8_rests 266 = .ok (.ifCond .ne 8, 3) := by decide +kernel
theorem dX8_rests_269 : decode cX8_rests 269 = .ok (.iload 5, 2) := by decide +kernel
theorem dX8_rests_271 : decode cX8_rests 271 = .ok (.goto 5, 3) := by decide +kernel
theorem dX8_rests_274 : decode cX8_rests 274 = .ok (.iload 6, 2) := by decide +kernel
theorem dX8_rests_276 : decode cX8_rests 276 = .ok (.ireturn, 1) := by decide +kernel
set_option maxRecDepth 20000 in
theorem ggX8_bestWind_X8_within : GoodIn wsX8_bestWind wsX8_within := goodIn_r _ [5] (by decide +kernel) (by decide +kernel)
set_option maxRecDepth 20000 in
theorem gX8_bestWind_X8_within : GoodIn wsX8_bestWind (va_wsS RX8 106 yX8_within wsX8_within) := goodIn_app (goodIn_of _ (by decide +kernel)) ggX8_bestWind_X8_within
set_option maxRecDepth 20000 in
theorem ggX8_bestWind_X8_isPlain : GoodIn wsX8_bestWind wsX8_isPlain := goodIn_r _ [9, 10, 68, 69, 70, 71, 72, 73, 74, 75, 76, 77, 78, 79, 80, 81, 82, 83, 84, 85, 86, 87, 88, 89, 90, 91, 92, 93, 94, 95, 96, 97, 98, 99, 100, 101, 102, 103, 104, 105, 106, 107, 108, 109, 110, 111] (by decide +kernel) (by decide +kernel)
set_option maxRecDepth 20000 in
theorem gX8_bestWind_X8_isPlain : GoodIn wsX8_bestWind (wsV RX8 163 RX8 yX8_isPlain wsX8_isPlain) := goodIn_app (goodIn_of _ (by decide +kernel)) ggX8_bestWind_X8_isPlain
set_option maxRecDepth 20000 in
theorem ggX8_bestWind_X8_every : GoodIn wsX8_bestWind wsX8_every := goodIn_r _ [13] (by decide +kernel) (by decide +kernel)
set_option maxRecDepth 20000 in
theorem gX8_bestWind_X8_every : GoodIn wsX8_bestWind (va_wsS RX8 197 yX8_every wsX8_every) := goodIn_app (goodIn_of _ (by decide +kernel)) ggX8_bestWind_X8_every
set_option maxRecDepth 20000 in
theorem ggX8_bestWind_X8_goDay : GoodIn wsX8_bestWind wsX8_goDay := goodIn_r _ [17, 18, 19, 20, 21, 22, 23, 24, 25, 26, 27, 28, 29, 30, 31, 4, 32, 33, 34, 35, 36, 37, 38, 39, 40, 41, 42, 43, 44, 45, 10, 46, 47, 48, 49, 50, 51, 52, 53, 54, 55, 56, 68, 69, 70, 71, 72, 73, 74, 75, 76, 77, 78, 79, 80, 81, 82, 83, 84, 85, 86, 87, 88, 89, 90, 91, 92, 93, 94, 95, 96, 97, 98, 99, 100, 101, 102, 103, 104, 105, 106, 107, 108, 109, 110, 111] (by decide +kernel) (by decide +kernel)
set_option maxRecDepth 20000 in
theorem gX8_bestWind_X8_goDay : GoodIn wsX8_bestWind (wsV RX8 200 RX8 yX8_goDay wsX8_goDay) := goodIn_app (goodIn_of _ (by decide +kernel)) ggX8_bestWind_X8_goDay
set_option maxRecDepth 20000 in
theorem ggX8_bestWind_X8_yieldTo : GoodIn wsX8_bestWind wsX8_yieldTo := goodIn_r _ [60, 10, 61, 62, 63, 64, 4, 65, 23, 66, 67, 24, 68, 69, 70, 71, 72, 73, 74, 75, 76, 77, 78, 79, 80, 81, 82, 83, 84, 85, 86, 87, 88, 89, 90, 91, 92, 93, 94, 95, 96, 97, 98, 99, 100, 101, 102, 103, 104, 105, 106, 107, 108, 109, 110, 111] (by decide +kernel) (by decide +kernel)
set_option maxRecDepth 20000 in
theorem gX8_bestWind_X8_yieldTo : GoodIn wsX8_bestWind (wsV RX8 212 RX8 yX8_yieldTo wsX8_yieldTo) := goodIn_app (goodIn_of _ (by decide +kernel)) ggX8_bestWind_X8_yieldTo
theorem dX8_bestWind_0 : decode cX8_bestWind 0 = .ok (.iload_n 1, 1) := by decide +kernel
theorem dX8_bestWind_1 : decode cX8_bestWind 1 = .ok (.iconst 0, 1) := by decide +kernel
theorem dX8_bestWind_2 : decode cX8_bestWind 2 = .ok (.iconst 1, 1) := by decide +kernel
theorem dX8_bestWind_3 : decode cX8_bestWind 3 = .ok (.invokestatic 106, 3) := by decide +kernel
theorem dX8_bestWind_6 : decode cX8_bestWind 6 = .ok (.ifCond .ne 6, 3) := by decide +kernel
theorem dX8_bestWind_9 : decode cX8_bestWind 9 = .ok (.bipush (-2), 2) := by decide +kernel
theorem dX8_bestWind_11 : decode cX8_bestWind 11 = .ok (.ireturn, 1) := by decide +kernel
theorem dX8_bestWind_12 : decode cX8_bestWind 12 = .ok (.aload_n 0, 1) := by decide +kernel
theorem dX8_bestWind_13 : decode cX8_bestWind 13 = .ok (.invokevirtual 163, 3) := by decide +kernel
theorem dX8_bestWind_16 : decode cX8_bestWind 16 = .ok (.ifCond .ne 6, 3) := by decide +kernel
theorem dX8_bestWind_19 : decode cX8_bestWind 19 = .ok (.bipush (-3), 2) := by decide +kernel
theorem dX8_bestWind_21 : decode cX8_bestWind 21 = .ok (.ireturn, 1) := by decide +kernel
theorem dX8_bestWind_22 : decode cX8_bestWind 22 = .ok (.iconst 0, 1) := by decide +kernel
theorem dX8_bestWind_23 : decode cX8_bestWind 23 = .ok (.istore_n 2, 1) := by decide +kernel
theorem dX8_bestWind_24 : decode cX8_bestWind 24 = .ok (.iconst (-1), 1) := by decide +kernel
theorem dX8_bestWind_25 : decode cX8_bestWind 25 = .ok (.istore_n 3, 1) := by decide +kernel
theorem dX8_bestWind_26 : decode cX8_bestWind 26 = .ok (.bipush (-3), 2) := by decide +kernel
theorem dX8_bestWind_28 : decode cX8_bestWind 28 = .ok (.istore 4, 2) := by decide +kernel
theorem dX8_bestWind_30 : decode cX8_bestWind 30 = .ok (.iload 4, 2) := by decide +kernel
theorem dX8_bestWind_32 : decode cX8_bestWind 32 = .ok (.iconst 3, 1) := by decide +kernel
theorem dX8_bestWind_33 : decode cX8_bestWind 33 = .ok (.if_icmp .gt 41, 3) := by decide +kernel
theorem dX8_bestWind_36 : decode cX8_bestWind 36 = .ok (.aload_n 0, 1) := by decide +kernel
theorem dX8_bestWind_37 : decode cX8_bestWind 37 = .ok (.iload 4, 2) := by decide +kernel
theorem dX8_bestWind_39 : decode cX8_bestWind 39 = .ok (.aload_n 0, 1) := by decide +kernel
theorem dX8_bestWind_40 : decode cX8_bestWind 40 = .ok (.getfield 140, 3) := by decide +kernel
theorem dX8_bestWind_43 : decode cX8_bestWind 43 = .ok (.invokestatic 197, 3) := by decide +kernel
theorem dX8_bestWind_46 : decode cX8_bestWind 46 = .ok (.invokevirtual 200, 3) := by decide +kernel
theorem dX8_bestWind_49 : decode cX8_bestWind 49 = .ok (.aload_n 0, 1) := by decide +kernel
theorem dX8_bestWind_50 : decode cX8_bestWind 50 = .ok (.iconst (-1), 1) := by decide +kernel
theorem dX8_bestWind_51 : decode cX8_bestWind 51 = .ok (.invokevirtual 212, 3) := by decide +kernel
theorem dX8_bestWind_54 : decode cX8_bestWind 54 = .ok (.istore 5, 2) := by decide +kernel
theorem dX8_bestWind_56 : decode cX8_bestWind 56 = .ok (.iload 5, 2) := by decide +kernel
theorem dX8_bestWind_58 : decode cX8_bestWind 58 = .ok (.iload_n 3, 1) := by decide +kernel
theorem dX8_bestWind_59 : decode cX8_bestWind 59 = .ok (.if_icmp .le 9, 3) := by decide +kernel
theorem dX8_bestWind_62 : decode cX8_bestWind 62 = .ok (.iload 5, 2) := by decide +kernel
theorem dX8_bestWind_64 : decode cX8_bestWind 64 = .ok (.istore_n 3, 1) := by decide +kernel
theorem dX8_bestWind_65 : decode cX8_bestWind 65 = .ok (.iload 4, 2) := by decide +kernel
theorem dX8_bestWind_67 : decode cX8_bestWind 67 = .ok (.istore_n 2, 1) := by decide +kernel
theorem dX8_bestWind_68 : decode cX8_bestWind 68 = .ok (.iinc 4 1, 3) := by decide +kernel
theorem dX8_bestWind_71 : decode cX8_bestWind 71 = .ok (.goto (-41), 3) := by decide +kernel
theorem dX8_bestWind_74 : decode cX8_bestWind 74 = .ok (.iload_n 1, 1) := by decide +kernel
theorem dX8_bestWind_75 : decode cX8_bestWind 75 = .ok (.ifCond .ne 10, 3) := by decide +kernel
theorem dX8_bestWind_78 : decode cX8_bestWind 78 = .ok (.iload_n 2, 1) := by decide +kernel
theorem dX8_bestWind_79 : decode cX8_bestWind 79 = .ok (.bipush 10, 2) := by decide +kernel
theorem dX8_bestWind_81 : decode cX8_bestWind 81 = .ok (.iadd, 1) := by decide +kernel
theorem dX8_bestWind_82 : decode cX8_bestWind 82 = .ok (.goto 4, 3) := by decide +kernel
theorem dX8_bestWind_85 : decode cX8_bestWind 85 = .ok (.iload_n 3, 1) := by decide +kernel
theorem dX8_bestWind_86 : decode cX8_bestWind 86 = .ok (.ireturn, 1) := by decide +kernel
theorem dX8_isGot_0 : decode cX8_isGot 0 = .ok (.iconst 0, 1) := by decide +kernel
theorem dX8_isGot_1 : decode cX8_isGot 1 = .ok (.istore_n 2, 1) := by decide +kernel
theorem dX8_isGot_2 : decode cX8_isGot 2 = .ok (.iload_n 2, 1) := by decide +kernel
theorem dX8_isGot_3 : decode cX8_isGot 3 = .ok (.aload_n 0, 1) := by decide +kernel
theorem dX8_isGot_4 : decode cX8_isGot 4 = .ok (.getfield 110, 3) := by decide +kernel
theorem dX8_isGot_7 : decode cX8_isGot 7 = .ok (.if_icmp .ge 28, 3) := by decide +kernel
theorem dX8_isGot_10 : decode cX8_isGot 10 = .ok (.aload_n 0, 1) := by decide +kernel
theorem dX8_isGot_11 : decode cX8_isGot 11 = .ok (.getfield 61, 3) := by decide +kernel
theorem dX8_isGot_14 : decode cX8_isGot 14 = .ok (.iload_n 2, 1) := by decide +kernel
theorem dX8_isGot_15 : decode cX8_isGot 15 = .ok (.iaload, 1) := by decide +kernel
theorem dX8_isGot_16 : decode cX8_isGot 16 = .ok (.aload_n 0, 1) := by decide +kernel
theorem dX8_isGot_17 : decode cX8_isGot 17 = .ok (.getfield 16, 3) := by decide +kernel
theorem dX8_isGot_20 : decode cX8_isGot 20 = .ok (.iload_n 1, 1) := by decide +kernel
theorem dX8_isGot_21 : decode cX8_isGot 21 = .ok (.iload_n 2, 1) := by decide +kernel
theorem dX8_isGot_22 : decode cX8_isGot 22 = .ok (.iadd, 1) := by decide +kernel
theorem dX8_isGot_23 : decode cX8_isGot 23 = .ok (.iaload, 1) := by decide +kernel
theorem dX8_isGot_24 : decode cX8_isGot 24 = .ok (.if_icmp .eq 5, 3) := by decide +kernel
theorem dX8_isGot_27 : decode cX8_isGot 27 = .ok (.iconst 0, 1) := by decide +kernel
theorem dX8_isGot_28 : decode cX8_isGot 28 = .ok (.ireturn, 1) := by decide +kernel
theorem dX8_isGot_29 : decode cX8_isGot 29 = .ok (.iinc 2 1, 3) := by decide +kernel
theorem dX8_isGot_32 : decode cX8_isGot 32 = .ok (.goto (-30), 3) := by decide +kernel
theorem dX8_isGot_35 : decode cX8_isGot 35 = .ok (.iconst 1, 1) := by decide +kernel
theorem dX8_isGot_36 : decode cX8_isGot 36 = .ok (.ireturn, 1) := by decide +kernel
set_option maxRecDepth 20000 in
theorem ggX8_missed_X8_isSheet : GoodIn wsX8_missed wsX8_isSheet := goodIn_r _ [8, 9, 10, 7, 11] (by decide +kernel) (by decide +kernel)
set_option maxRecDepth 20000 in
theorem gX8_missed_X8_isSheet : GoodIn wsX8_missed (va_wsS RX8 116 yX8_isSheet wsX8_isSheet) := goodIn_app (goodIn_of _ (by decide +kernel)) ggX8_missed_X8_isSheet
set_option maxRecDepth 20000 in
theorem ggX8_missed_X8_isSort : GoodIn wsX8_missed wsX8_isSort := goodIn_r _ [14, 9, 10, 7, 11] (by decide +kernel) (by decide +kernel)
set_option maxRecDepth 20000 in
theorem gX8_missed_X8_isSort : GoodIn wsX8_missed (va_wsS RX8 120 yX8_isSort wsX8_isSort) := goodIn_app (goodIn_of _ (by decide +kernel)) ggX8_missed_X8_isSort
set_option maxRecDepth 20000 in
theorem ggX8_missed_X8_against : GoodIn wsX8_missed wsX8_against := goodIn_r _ [18, 19, 20, 84, 85, 86, 87, 88, 89, 90, 91, 92, 93, 94, 95, 96, 97, 98, 99, 100, 101, 102, 103, 104, 105, 106, 107, 108, 109, 110, 111, 112, 113, 114, 115, 116, 117, 118, 119, 120, 121, 122, 123, 124, 125, 126, 127] (by decide +kernel) (by decide +kernel)
set_option maxRecDepth 20000 in
theorem gX8_missed_X8_against : GoodIn wsX8_missed (wsV RX8 123 RX8 yX8_against wsX8_against) := goodIn_app (goodIn_of _ (by decide +kernel)) ggX8_missed_X8_against
set_option maxRecDepth 20000 in
theorem ggX8_missed_X8_fails : GoodIn wsX8_missed wsX8_fails := goodIn_r _ [24, 1, 84, 85, 86, 87, 88, 89, 90, 91, 92, 93, 94, 95, 96, 97, 98, 99, 100, 101, 102, 103, 104, 105, 106, 107, 108, 109, 110, 111, 112, 113, 114, 115, 116, 117, 118, 119, 120, 121, 122, 123, 124, 125, 126, 127] (by decide +kernel) (by decide +kernel)
set_option maxRecDepth 20000 in
theorem gX8_missed_X8_fails : GoodIn wsX8_missed (wsV RX8 127 RX8 yX8_fails wsX8_fails) := goodIn_app (goodIn_of _ (by decide +kernel)) ggX8_missed_X8_fails
set_option maxRecDepth 20000 in
theorem ggX8_missed_X8_isPlain : GoodIn wsX8_missed wsX8_isPlain := goodIn_r _ [28, 2, 84, 85, 86, 87, 88, 89, 90, 91, 92, 93, 94, 95, 96, 97, 98, 99, 100, 101, 102, 103, 104, 105, 106, 107, 108, 109, 110, 111, 112, 113, 114, 115, 116, 117, 118, 119, 120, 121, 122, 123, 124, 125, 126, 127] (by decide +kernel) (by decide +kernel)
set_option maxRecDepth 20000 in
theorem gX8_missed_X8_isPlain : GoodIn wsX8_missed (wsV RX8 163 RX8 yX8_isPlain wsX8_isPlain) := goodIn_app (goodIn_of _ (by decide +kernel)) ggX8_missed_X8_isPlain
set_option maxRecDepth 20000 in
theorem ggX8_missed_X8_every : GoodIn wsX8_missed wsX8_every := goodIn_r _ [31] (by decide +kernel) (by decide +kernel)
set_option maxRecDepth 20000 in
theorem gX8_missed_X8_every : GoodIn wsX8_missed (va_wsS RX8 197 yX8_every wsX8_every) := goodIn_app (goodIn_of _ (by decide +kernel)) ggX8_missed_X8_every
set_option maxRecDepth 20000 in
theorem ggX8_missed_X8_goDay : GoodIn wsX8_missed wsX8_goDay := goodIn_r _ [35, 36, 37, 38, 39, 40, 41, 42, 43, 44, 45, 46, 47, 48, 49, 7, 50, 51, 52, 53, 54, 55, 56, 57, 58, 59, 60, 61, 62, 63, 2, 64, 65, 66, 67, 68, 69, 70, 71, 72, 73, 74, 84, 85, 86, 87, 88, 89, 90, 91, 92, 93, 94, 95, 96, 97, 98, 99, 100, 101, 102, 103, 104, 105, 106, 107, 108, 109, 110, 111, 112, 113, 114, 115, 116, 117, 118, 119, 120, 121, 122, 123, 124, 125, 126, 127] (by decide +kernel) (by decide +kernel)
set_option maxRecDepth 20000 in
theorem gX8_missed_X8_goDay : GoodIn wsX8_missed (wsV RX8 200 RX8 yX8_goDay wsX8_goDay) := goodIn_app (goodIn_of _ (by decide +kernel)) ggX8_missed_X8_goDay
set_option maxRecDepth 20000 in
theorem ggX8_missed_X8_isGot : GoodIn wsX8_missed wsX8_isGot := goodIn_r _ [78, 2, 41, 79, 84, 85, 86, 87, 88, 89, 90, 91, 92, 93, 94, 95, 96, 97, 98, 99, 100, 101, 102, 103, 104, 105, 106, 107, 108, 109, 110, 111, 112, 113, 114, 115, 116, 117, 118, 119, 120, 121, 122, 123, 124, 125, 126, 127] (by decide +kernel) (by decide +kernel)
set_option maxRecDepth 20000 in
theorem gX8_missed_X8_isGot : GoodIn wsX8_missed (wsV RX8 250 RX8 yX8_isGot wsX8_isGot) := goodIn_app (goodIn_of _ (by decide +kernel)) ggX8_missed_X8_isGot
set_option maxRecDepth 20000 in
theorem ggX8_missed_X8_goNow : GoodIn wsX8_missed wsX8_goNow := goodIn_r _ [83, 4, 3, 29, 30, 7, 31, 32, 33, 34, 35, 36, 37, 38, 39, 40, 41, 42, 43, 44, 45, 46, 47, 48, 49, 50, 51, 52, 53, 54, 55, 56, 57, 58, 59, 60, 61, 62, 63, 2, 64, 65, 66, 67, 68, 69, 70, 71, 72, 73, 74, 84, 85, 86, 87, 88, 89, 90, 91, 92, 93, 94, 95, 96, 97, 98, 99, 100, 101, 102, 103, 104, 105, 106, 107, 108, 109, 110, 111, 112, 113, 114, 115, 116, 117, 118, 119, 120, 121, 122, 123, 124, 125, 126, 127] (by decide +kernel) (by decide +kernel)
set_option maxRecDepth 20000 in
theorem gX8_missed_X8_goNow : GoodIn wsX8_missed (wsV RX8 206 RX8 yX8_goNow wsX8_goNow) := goodIn_app (goodIn_of _ (by decide +kernel)) ggX8_missed_X8_goNow
theorem dX8_missed_0 : decode cX8_missed 0 = .ok (.aload_n 0, 1) := by decide +kernel
theorem dX8_missed_1 : decode cX8_missed 1 = .ok (.iconst 0, 1) := by decide +kernel
theorem dX8_missed_2 : decode cX8_missed 2 = .ok (.putfield 100, 3) := by decide +kernel
theorem dX8_missed_5 : decode cX8_missed 5 = .ok (.iload_n 1, 1) := by decide +kernel
theorem dX8_missed_6 : decode cX8_missed 6 = .ok (.invokestatic 116, 3) := by decide +kernel
theorem dX8_missed_9 : decode cX8_missed 9 = .ok (.ifCond .ne 5, 3) := by decide +kernel
theorem dX8_missed_12 : decode cX8_missed 12 = .ok (.iconst (-1), 1) := by decide +kernel
theorem dX8_missed_13 : decode cX8_missed 13 = .ok (.ireturn, 1) := by decide +kernel
theorem dX8_missed_14 : decode cX8_missed 14 = .ok (.iload_n 2, 1) := by decide +kernel
theorem dX8_missed_15 : decode cX8_missed 15 = .ok (.invokestatic 120, 3) := by decide +kernel
theorem dX8_missed_18 : decode cX8_missed 18 = .ok (.ifCond .ne 6, 3) := by decide +kernel
theorem dX8_missed_21 : decode cX8_missed 21 = .ok (.bipush (-2), 2) := by decide +kernel
theorem dX8_missed_23 : decode cX8_missed 23 = .ok (.ireturn, 1) := by decide +kernel
theorem dX8_missed_24 : decode cX8_missed 24 = .ok (.aload_n 0, 1) := by decide +kernel
theorem dX8_missed_25 : decode cX8_missed 25 = .ok (.iload_n 1, 1) := by decide +kernel
theorem dX8_missed_26 : decode cX8_missed 26 = .ok (.iload_n 2, 1) := by decide +kernel
theorem dX8_missed_27 : decode cX8_missed 27 = .ok (.iload_n 3, 1) := by decide +kernel
theorem dX8_missed_28 : decode cX8_missed 28 = .ok (.aload_n 0, 1) := by decide +kernel
theorem dX8_missed_29 : decode cX8_missed 29 = .ok (.getfield 110, 3) := by decide +kernel
theorem dX8_missed_32 : decode cX8_missed 32 = .ok (.invokevirtual 123, 3) := by decide +kernel
theorem dX8_missed_35 : decode cX8_missed 35 = .ok (.istore 4, 2) := by decide +kernel
theorem dX8_missed_37 : decode cX8_missed 37 = .ok (.iload 4, 2) := by decide +kernel
theorem dX8_missed_39 : decode cX8_missed 39 = .ok (.ifCond .eq 10, 3) := by decide +kernel
theorem dX8_missed_42 : decode cX8_missed 42 = .ok (.aload_n 0, 1) := by decide +kernel
theorem dX8_missed_43 : decode cX8_missed 43 = .ok (.iload 4, 2) := by decide +kernel
theorem dX8_missed_45 : decode cX8_missed 45 = .ok (.invokevirtual 127, 3) := by decide +kernel
theorem dX8_missed_48 : decode cX8_missed 48 = .ok (.ireturn, 1) := by decide +kernel
theorem dX8_missed_49 : decode cX8_missed 49 = .ok (.aload_n 0, 1) := by decide +kernel
theorem dX8_missed_50 : decode cX8_missed 50 = .ok (.invokevirtual 163, 3) := by decide +kernel
theorem dX8_missed_53 : decode cX8_missed 53 = .ok (.ifCond .ne 6, 3) := by decide +kernel
theorem dX8_missed_56 : decode cX8_missed 56 = .ok (.bipush (-3), 2) := by decide +kernel
theorem dX8_missed_58 : decode cX8_missed 58 = .ok (.ireturn, 1) := by decide +kernel
theorem dX8_missed_59 : decode cX8_missed 59 = .ok (.bipush 40, 2) := by decide +kernel
theorem dX8_missed_61 : decode cX8_missed 61 = .ok (.iload_n 1, 1) := by decide +kernel
theorem dX8_missed_62 : decode cX8_missed 62 = .ok (.imul, 1) := by decide +kernel
theorem dX8_missed_63 : decode cX8_missed 63 = .ok (.iload_n 3, 1) := by decide +kernel
theorem dX8_missed_64 : decode cX8_missed 64 = .ok (.iadd, 1) := by decide +kernel
theorem dX8_missed_65 : decode cX8_missed 65 = .ok (.istore 5, 2) := by decide +kernel
theorem dX8_missed_67 : decode cX8_missed 67 = .ok (.iconst 0, 1) := by decide +kernel
theorem dX8_missed_68 : decode cX8_missed 68 = .ok (.istore 6, 2) := by decide +kernel
theorem dX8_missed_70 : decode cX8_missed 70 = .ok (.iconst 0, 1) := by decide +kernel
theorem dX8_missed_71 : decode cX8_missed 71 = .ok (.istore 7, 2) := by decide +kernel
theorem dX8_missed_73 : decode cX8_missed 73 = .ok (.iload 7, 2) := by decide +kernel
theorem dX8_missed_75 : decode cX8_missed 75 = .ok (.aload_n 0, 1) := by decide +kernel
theorem dX8_missed_76 : decode cX8_missed 76 = .ok (.getfield 140, 3) := by decide +kernel
theorem dX8_missed_79 : decode cX8_missed 79 = .ok (.if_icmp .ge 51, 3) := by decide +kernel
theorem dX8_missed_82 : decode cX8_missed 82 = .ok (.aload_n 0, 1) := by decide +kernel
theorem dX8_missed_83 : decode cX8_missed 83 = .ok (.aload_n 0, 1) := by decide +kernel
theorem dX8_missed_84 : decode cX8_missed 84 = .ok (.getfield 143, 3) := by decide +kernel
theorem dX8_missed_87 : decode cX8_missed 87 = .ok (.aload_n 0, 1) := by decide +kernel
theorem dX8_missed_88 : decode cX8_missed 88 = .ok (.getfield 140, 3) := by decide +kernel
theorem dX8_missed_91 : decode cX8_missed 91 = .ok (.invokestatic 197, 3) := by decide +kernel
theorem dX8_missed_94 : decode cX8_missed 94 = .ok (.iconst 1, 1) := by decide +kernel
theorem dX8_missed_95 : decode cX8_missed 95 = .ok (.iload 7, 2) := by decide +kernel
theorem dX8_missed_97 : decode cX8_missed 97 = .ok (.ishl, 1) := by decide +kernel
theorem dX8_missed_98 : decode cX8_missed 98 = .ok (.isub, 1) := by decide +kernel
theorem dX8_missed_99 : decode cX8_missed 99 = .ok (.invokevirtual 200, 3) := by decide +kernel
theorem dX8_missed_102 : decode cX8_missed 102 = .ok (.iload 6, 2) := by decide +kernel
theorem dX8_missed_104 : decode cX8_missed 104 = .ok (.aload_n 0, 1) := by decide +kernel
theorem dX8_missed_105 : decode cX8_missed 105 = .ok (.iload 5, 2) := by decide +kernel
theorem dX8_missed_107 : decode cX8_missed 107 = .ok (.invokevirtual 250, 3) := by decide +kernel
theorem dX8_missed_110 : decode cX8_missed 110 = .ok (.ifCond .eq 10, 3) := by decide +kernel
theorem dX8_missed_113 : decode cX8_missed 113 = .ok (.iconst 1, 1) := by decide +kernel
theorem dX8_missed_114 : decode cX8_missed 114 = .ok (.iload 7, 2) := by decide +kernel
theorem dX8_missed_116 : decode cX8_missed 116 = .ok (.ishl, 1) := by decide +kernel
theorem dX8_missed_117 : decode cX8_missed 117 = .ok (.goto 4, 3) := by decide +kernel
theorem dX8_missed_120 : decode cX8_missed 120 = .ok (.iconst 0, 1) := by decide +kernel
theorem dX8_missed_121 : decode cX8_missed 121 = .ok (.ior, 1) := by decide +kernel
theorem dX8_missed_122 : decode cX8_missed 122 = .ok (.istore 6, 2) := by decide +kernel
theorem dX8_missed_124 : decode cX8_missed 124 = .ok (.iinc 7 1, 3) := by decide +kernel
theorem dX8_missed_127 : decode cX8_missed 127 = .ok (.goto (-54), 3) := by decide +kernel
theorem dX8_missed_130 : decode cX8_missed 130 = .ok (.aload_n 0, 1) := by decide +kernel
theorem dX8_missed_131 : decode cX8_missed 131 = .ok (.invokevirtual 206, 3) := by decide +kernel
theorem dX8_missed_134 : decode cX8_missed 134 = .ok (.iload 6, 2) := by decide +kernel
theorem dX8_missed_136 : decode cX8_missed 136 = .ok (.aload_n 0, 1) := by decide +kernel
theorem dX8_missed_137 : decode cX8_missed 137 = .ok (.iload 5, 2) := by decide +kernel
theorem dX8_missed_139 : decode cX8_missed 139 = .ok (.invokevirtual 250, 3) := by decide +kernel
theorem dX8_missed_142 : decode cX8_missed 142 = .ok (.ifCond .eq 9, 3) := by decide +kernel
theorem dX8_missed_145 : decode cX8_missed 145 = .ok (.sipush 256, 3) := by decide +kernel
theorem dX8_missed_148 : decode cX8_missed 148 = .ok (.goto 4, 3) := by decide +kernel
theorem dX8_missed_151 : decode cX8_missed 151 = .ok (.iconst 0, 1) := by decide +kernel
theorem dX8_missed_152 : decode cX8_missed 152 = .ok (.ior, 1) := by decide +kernel
theorem dX8_missed_153 : decode cX8_missed 153 = .ok (.ireturn, 1) := by decide +kernel
set_option maxRecDepth 20000 in
theorem ggX8_sheet_X8_isSheet : GoodIn wsX8_sheet wsX8_isSheet := goodIn_r _ [8, 9, 10, 7, 11] (by decide +kernel) (by decide +kernel)
set_option maxRecDepth 20000 in
theorem gX8_sheet_X8_isSheet : GoodIn wsX8_sheet (va_wsS RX8 116 yX8_isSheet wsX8_isSheet) := goodIn_app (goodIn_of _ (by decide +kernel)) ggX8_sheet_X8_isSheet
set_option maxRecDepth 20000 in
theorem ggX8_sheet_X8_isSort : GoodIn wsX8_sheet wsX8_isSort := goodIn_r _ [14, 9, 10, 7, 11] (by decide +kernel) (by decide +kernel)
set_option maxRecDepth 20000 in
theorem gX8_sheet_X8_isSort : GoodIn wsX8_sheet (va_wsS RX8 120 yX8_isSort wsX8_isSort) := goodIn_app (goodIn_of _ (by decide +kernel)) ggX8_sheet_X8_isSort
set_option maxRecDepth 20000 in
theorem ggX8_sheet_X8_fails : GoodIn wsX8_sheet wsX8_fails := goodIn_r _ [18, 1, 19, 20, 21, 22, 23, 24, 25, 26, 27, 28, 29, 30, 31, 32, 33, 34, 35, 36, 37, 38, 39, 40, 41, 42, 43, 44, 45, 46, 47, 48, 49, 50, 51, 52, 53, 54, 55, 56, 57, 58, 59, 60, 61, 62] (by decide +kernel) (by decide +kernel)
set_option maxRecDepth 20000 in
theorem gX8_sheet_X8_fails : GoodIn wsX8_sheet (wsV RX8 127 RX8 yX8_fails wsX8_fails) := goodIn_app (goodIn_of _ (by decide +kernel)) ggX8_sheet_X8_fails
theorem dX8_sheet_0 : decode cX8_sheet 0 = .ok (.aload_n 0, 1) := by decide +kernel
theorem dX8_sheet_1 : decode cX8_sheet 1 = .ok (.iconst 0, 1) := by decide +kernel
theorem dX8_sheet_2 : decode cX8_sheet 2 = .ok (.putfield 100, 3) := by decide +kernel
theorem dX8_sheet_5 : decode cX8_sheet 5 = .ok (.iload_n 1, 1) := by decide +kernel
theorem dX8_sheet_6 : decode cX8_sheet 6 = .ok (.invokestatic 116, 3) := by decide +kernel
theorem dX8_sheet_9 : decode cX8_sheet 9 = .ok (.ifCond .ne 5, 3) := by decide +kernel
theorem dX8_sheet_12 : decode cX8_sheet 12 = .ok (.iconst (-1), 1) := by decide +kernel
theorem dX8_sheet_13 : decode cX8_sheet 13 = .ok (.ireturn, 1) := by decide +kernel
theorem dX8_sheet_14 : decode cX8_sheet 14 = .ok (.iload_n 2, 1) := by decide +kernel
theorem dX8_sheet_15 : decode cX8_sheet 15 = .ok (.invokestatic 120, 3) := by decide +kernel
theorem dX8_sheet_18 : decode cX8_sheet 18 = .ok (.ifCond .eq 9, 3) := by decide +kernel
theorem dX8_sheet_21 : decode cX8_sheet 21 = .ok (.iload_n 3, 1) := by decide +kernel
theorem dX8_sheet_22 : decode cX8_sheet 22 = .ok (.bipush 40, 2) := by decide +kernel
theorem dX8_sheet_24 : decode cX8_sheet 24 = .ok (.if_icmp .le 6, 3) := by decide +kernel
theorem dX8_sheet_27 : decode cX8_sheet 27 = .ok (.bipush (-2), 2) := by decide +kernel
theorem dX8_sheet_29 : decode cX8_sheet 29 = .ok (.ireturn, 1) := by decide +kernel
theorem dX8_sheet_30 : decode cX8_sheet 30 = .ok (.iload_n 3, 1) := by decide +kernel
theorem dX8_sheet_31 : decode cX8_sheet 31 = .ok (.ifCond .ge 9, 3) := by decide +kernel
theorem dX8_sheet_34 : decode cX8_sheet 34 = .ok (.aload_n 0, 1) := by decide +kernel
theorem dX8_sheet_35 : decode cX8_sheet 35 = .ok (.iconst 4, 1) := by decide +kernel
theorem dX8_sheet_36 : decode cX8_sheet 36 = .ok (.invokevirtual 127, 3) := by decide +kernel
theorem dX8_sheet_39 : decode cX8_sheet 39 = .ok (.ireturn, 1) := by decide +kernel
theorem dX8_sheet_40 : decode cX8_sheet 40 = .ok (.aload_n 0, 1) := by decide +kernel
theorem dX8_sheet_41 : decode cX8_sheet 41 = .ok (.getfield 9, 3) := by decide +kernel
theorem dX8_sheet_44 : decode cX8_sheet 44 = .ok (.iload_n 1, 1) := by decide +kernel
theorem dX8_sheet_45 : decode cX8_sheet 45 = .ok (.iload_n 2, 1) := by decide +kernel
theorem dX8_sheet_46 : decode cX8_sheet 46 = .ok (.iastore, 1) := by decide +kernel
theorem dX8_sheet_47 : decode cX8_sheet 47 = .ok (.aload_n 0, 1) := by decide +kernel
theorem dX8_sheet_48 : decode cX8_sheet 48 = .ok (.getfield 13, 3) := by decide +kernel
theorem dX8_sheet_51 : decode cX8_sheet 51 = .ok (.iload_n 1, 1) := by decide +kernel
theorem dX8_sheet_52 : decode cX8_sheet 52 = .ok (.iload_n 3, 1) := by decide +kernel
theorem dX8_sheet_53 : decode cX8_sheet 53 = .ok (.iastore, 1) := by decide +kernel
theorem dX8_sheet_54 : decode cX8_sheet 54 = .ok (.iconst 0, 1) := by decide +kernel
theorem dX8_sheet_55 : decode cX8_sheet 55 = .ok (.istore 4, 2) := by decide +kernel
theorem dX8_sheet_57 : decode cX8_sheet 57 = .ok (.iload 4, 2) := by decide +kernel
theorem dX8_sheet_59 : decode cX8_sheet 59 = .ok (.bipush 40, 2) := by decide +kernel
theorem dX8_sheet_61 : decode cX8_sheet 61 = .ok (.if_icmp .ge 22, 3) := by decide +kernel
theorem dX8_sheet_64 : decode cX8_sheet 64 = .ok (.aload_n 0, 1) := by decide +kernel
theorem dX8_sheet_65 : decode cX8_sheet 65 = .ok (.getfield 16, 3) := by decide +kernel
theorem dX8_sheet_68 : decode cX8_sheet 68 = .ok (.bipush 40, 2) := by decide +kernel
theorem dX8_sheet_70 : decode cX8_sheet 70 = .ok (.iload_n 1, 1) := by decide +kernel
theorem dX8_sheet_71 : decode cX8_sheet 71 = .ok (.imul, 1) := by decide +kernel
theorem dX8_sheet_72 : decode cX8_sheet 72 = .ok (.iload 4, 2) := by decide +kernel
theorem dX8_sheet_74 : decode cX8_sheet 74 = .ok (.iadd, 1) := by decide +kernel
theorem dX8_sheet_75 : decode cX8_sheet 75 = .ok (.iconst 0, 1) := by decide +kernel
theorem dX8_sheet_76 : decode cX8_sheet 76 = .ok (.iastore, 1) := by decide +kernel
theorem dX8_sheet_77 : decode cX8_sheet 77 = .ok (.iinc 4 1, 3) := by decide +kernel
theorem dX8_sheet_80 : decode cX8_sheet 80 = .ok (.goto (-23), 3) := by decide +kernel
theorem dX8_sheet_83 : decode cX8_sheet 83 = .ok (.iconst 1, 1) := by decide +kernel
theorem dX8_sheet_84 : decode cX8_sheet 84 = .ok (.ireturn, 1) := by decide +kernel
set_option maxRecDepth 20000 in
theorem ggX8_lose_X8_isSheet : GoodIn wsX8_lose wsX8_isSheet := goodIn_r _ [5, 6, 7, 4, 8] (by decide +kernel) (by decide +kernel)
set_option maxRecDepth 20000 in
theorem gX8_lose_X8_isSheet : GoodIn wsX8_lose (va_wsS RX8 116 yX8_isSheet wsX8_isSheet) := goodIn_app (goodIn_of _ (by decide +kernel)) ggX8_lose_X8_isSheet
theorem dX8_lose_0 : decode cX8_lose 0 = .ok (.iload_n 1, 1) := by decide +kernel
theorem dX8_lose_1 : decode cX8_lose 1 = .ok (.invokestatic 116, 3) := by decide +kernel
theorem dX8_lose_4 : decode cX8_lose 4 = .ok (.ifCond .ne 5, 3) := by decide +kernel
theorem dX8_lose_7 : decode cX8_lose 7 = .ok (.iconst (-1), 1) := by decide +kernel
theorem dX8_lose_8 : decode cX8_lose 8 = .ok (.ireturn, 1) := by decide +kernel
theorem dX8_lose_9 : decode cX8_lose 9 = .ok (.aload_n 0, 1) := by decide +kernel
theorem dX8_lose_10 : decode cX8_lose 10 = .ok (.getfield 9, 3) := by decide +kernel
theorem dX8_lose_13 : decode cX8_lose 13 = .ok (.iload_n 1, 1) := by decide +kernel
theorem dX8_lose_14 : decode cX8_lose 14 = .ok (.iaload, 1) := by decide +kernel
theorem dX8_lose_15 : decode cX8_lose 15 = .ok (.bipush (-9), 2) := by decide +kernel
theorem dX8_lose_17 : decode cX8_lose 17 = .ok (.if_icmp .ne 7, 3) := by decide +kernel
theorem dX8_lose_20 : decode cX8_lose 20 = .ok (.iconst 0, 1) := by decide +kernel
theorem dX8_lose_21 : decode cX8_lose 21 = .ok (.goto 4, 3) := by decide +kernel
theorem dX8_lose_24 : decode cX8_lose 24 = .ok (.iconst 1, 1) := by decide +kernel
theorem dX8_lose_25 : decode cX8_lose 25 = .ok (.istore_n 2, 1) := by decide +kernel
theorem dX8_lose_26 : decode cX8_lose 26 = .ok (.aload_n 0, 1) := by decide +kernel
theorem dX8_lose_27 : decode cX8_lose 27 = .ok (.getfield 9, 3) := by decide +kernel
theorem dX8_lose_30 : decode cX8_lose 30 = .ok (.iload_n 1, 1) := by decide +kernel
theorem dX8_lose_31 : decode cX8_lose 31 = .ok (.bipush (-9), 2) := by decide +kernel
theorem dX8_lose_33 : decode cX8_lose 33 = .ok (.iastore, 1) := by decide +kernel
theorem dX8_lose_34 : decode cX8_lose 34 = .ok (.iload_n 2, 1) := by decide +kernel
theorem dX8_lose_35 : decode cX8_lose 35 = .ok (.ireturn, 1) := by decide +kernel
set_option maxRecDepth 20000 in
theorem ggX8_put_X8_isSheet : GoodIn wsX8_put wsX8_isSheet := goodIn_r _ [8, 9, 10, 7, 11] (by decide +kernel) (by decide +kernel)
set_option maxRecDepth 20000 in
theorem gX8_put_X8_isSheet : GoodIn wsX8_put (va_wsS RX8 116 yX8_isSheet wsX8_isSheet) := goodIn_app (goodIn_of _ (by decide +kernel)) ggX8_put_X8_isSheet
set_option maxRecDepth 20000 in
theorem ggX8_put_X8_fails : GoodIn wsX8_put wsX8_fails := goodIn_r _ [15, 1, 16, 17, 18, 19, 20, 21, 22, 23, 24, 25, 26, 27, 28, 29, 30, 31, 32, 33, 34, 35, 36, 37, 38, 39, 40, 41, 42, 43, 44, 45, 46, 47, 48, 49, 50, 51, 52, 53, 54, 55, 56, 57, 58, 59] (by decide +kernel) (by decide +kernel)
set_option maxRecDepth 20000 in
theorem gX8_put_X8_fails : GoodIn wsX8_put (wsV RX8 127 RX8 yX8_fails wsX8_fails) := goodIn_app (goodIn_of _ (by decide +kernel)) ggX8_put_X8_fails
set_option maxRecDepth 20000 in
theorem ggX8_put_X8_within : GoodIn wsX8_put wsX8_within := goodIn_r _ [11] (by decide +kernel) (by decide +kernel)
set_option maxRecDepth 20000 in
theorem gX8_put_X8_within : GoodIn wsX8_put (va_wsS RX8 106 yX8_within wsX8_within) := goodIn_app (goodIn_of _ (by decide +kernel)) ggX8_put_X8_within
theorem dX8_put_0 : decode cX8_put 0 = .ok (.aload_n 0, 1) := by decide +kernel
theorem dX8_put_1 : decode cX8_put 1 = .ok (.iconst 0, 1) := by decide +kernel
theorem dX8_put_2 : decode cX8_put 2 = .ok (.putfield 100, 3) := by decide +kernel
theorem dX8_put_5 : decode cX8_put 5 = .ok (.iload_n 1, 1) := by decide +kernel
theorem dX8_put_6 : decode cX8_put 6 = .ok (.invokestatic 116, 3) := by decide +kernel
theorem dX8_put_9 : decode cX8_put 9 = .ok (.ifCond .ne 5, 3) := by decide +kernel
theorem dX8_put_12 : decode cX8_put 12 = .ok (.iconst (-1), 1) := by decide +kernel
theorem dX8_put_13 : decode cX8_put 13 = .ok (.ireturn, 1) := by decide +kernel
theorem dX8_put_14 : decode cX8_put 14 = .ok (.aload_n 0, 1) := by decide +kernel
theorem dX8_put_15 : decode cX8_put 15 = .ok (.getfield 9, 3) := by decide +kernel
theorem dX8_put_18 : decode cX8_put 18 = .ok (.iload_n 1, 1) := by decide +kernel
theorem dX8_put_19 : decode cX8_put 19 = .ok (.iaload, 1) := by decide +kernel
theorem dX8_put_20 : decode cX8_put 20 = .ok (.bipush (-9), 2) := by decide +kernel
theorem dX8_put_22 : decode cX8_put 22 = .ok (.if_icmp .ne 9, 3) := by decide +kernel
theorem dX8_put_25 : decode cX8_put 25 = .ok (.aload_n 0, 1) := by decide +kernel
theorem dX8_put_26 : decode cX8_put 26 = .ok (.iconst 1, 1) := by decide +kernel
theorem dX8_put_27 : decode cX8_put 27 = .ok (.invokevirtual 127, 3) := by decide +kernel
theorem dX8_put_30 : decode cX8_put 30 = .ok (.ireturn, 1) := by decide +kernel
theorem dX8_put_31 : decode cX8_put 31 = .ok (.iload_n 2, 1) := by decide +kernel
theorem dX8_put_32 : decode cX8_put 32 = .ok (.iconst 0, 1) := by decide +kernel
theorem dX8_put_33 : decode cX8_put 33 = .ok (.aload_n 0, 1) := by decide +kernel
theorem dX8_put_34 : decode cX8_put 34 = .ok (.getfield 13, 3) := by decide +kernel
theorem dX8_put_37 : decode cX8_put 37 = .ok (.iload_n 1, 1) := by decide +kernel
theorem dX8_put_38 : decode cX8_put 38 = .ok (.iaload, 1) := by decide +kernel
theorem dX8_put_39 : decode cX8_put 39 = .ok (.iconst 1, 1) := by decide +kernel
theorem dX8_put_40 : decode cX8_put 40 = .ok (.isub, 1) := by decide +kernel
theorem dX8_put_41 : decode cX8_put 41 = .ok (.invokestatic 106, 3) := by decide +kernel
theorem dX8_put_44 : decode cX8_put 44 = .ok (.ifCond .ne 9, 3) := by decide +kernel
theorem dX8_put_47 : decode cX8_put 47 = .ok (.aload_n 0, 1) := by decide +kernel
theorem dX8_put_48 : decode cX8_put 48 = .ok (.iconst 3, 1) := by decide +kernel
theorem dX8_put_49 : decode cX8_put 49 = .ok (.invokevirtual 127, 3) := by decide +kernel
theorem dX8_put_52 : decode cX8_put 52 = .ok (.ireturn, 1) := by decide +kernel
theorem dX8_put_53 : decode cX8_put 53 = .ok (.aload_n 0, 1) := by decide +kernel
theorem dX8_put_54 : decode cX8_put 54 = .ok (.getfield 16, 3) := by decide +kernel
theorem dX8_put_57 : decode cX8_put 57 = .ok (.bipush 40, 2) := by decide +kernel
theorem dX8_put_59 : decode cX8_put 59 = .ok (.iload_n 1, 1) := by decide +kernel
theorem dX8_put_60 : decode cX8_put 60 = .ok (.imul, 1) := by decide +kernel
theorem dX8_put_61 : decode cX8_put 61 = .ok (.iload_n 2, 1) := by decide +kernel
theorem dX8_put_62 : decode cX8_put 62 = .ok (.iadd, 1) := by decide +kernel
theorem dX8_put_63 : decode cX8_put 63 = .ok (.aload_n 0, 1) := by decide +kernel
theorem dX8_put_64 : decode cX8_put 64 = .ok (.getfield 9, 3) := by decide +kernel
theorem dX8_put_67 : decode cX8_put 67 = .ok (.iload_n 1, 1) := by decide +kernel
theorem dX8_put_68 : decode cX8_put 68 = .ok (.iaload, 1) := by decide +kernel
theorem dX8_put_69 : decode cX8_put 69 = .ok (.ifCond .ne 8, 3) := by decide +kernel
theorem dX8_put_72 : decode cX8_put 72 = .ok (.iload_n 3, 1) := by decide +kernel
theorem dX8_put_73 : decode cX8_put 73 = .ok (.i2b, 1) := by decide +kernel
theorem dX8_put_74 : decode cX8_put 74 = .ok (.goto 19, 3) := by decide +kernel
theorem dX8_put_77 : decode cX8_put 77 = .ok (.aload_n 0, 1) := by decide +kernel
theorem dX8_put_78 : decode cX8_put 78 = .ok (.getfield 9, 3) := by decide +kernel
theorem dX8_put_81 : decode cX8_put 81 = .ok (.iload_n 1, 1) := by decide +kernel
theorem dX8_put_82 : decode cX8_put 82 = .ok (.iaload, 1) := by decide +kernel
theorem dX8_put_83 : decode cX8_put 83 = .ok (.iconst 1, 1) := by decide +kernel
theorem dX8_put_84 : decode cX8_put 84 = .ok (.if_icmp .ne 8, 3) := by decide +kernel
theorem dX8_put_87 : decode cX8_put 87 = .ok (.iload_n 3, 1) := by decide +kernel
theorem dX8_put_88 : decode cX8_put 88 = .ok (.i2s, 1) := by decide +kernel
theorem dX8_put_89 : decode cX8_put 89 = .ok (.goto 4, 3) := by decide +kernel
theorem dX8_put_92 : decode cX8_put 92 = .ok (.iload_n 3, 1) := by decide +kernel
theorem dX8_put_93 : decode cX8_put 93 = .ok (.iastore, 1) := by decide +kernel
theorem dX8_put_94 : decode cX8_put 94 = .ok (.iconst 1, 1) := by decide +kernel
theorem dX8_put_95 : decode cX8_put 95 = .ok (.ireturn, 1) := by decide +kernel
set_option maxRecDepth 20000 in
theorem ggX8_cell_X8_isSheet : GoodIn wsX8_cell wsX8_isSheet := goodIn_r _ [9, 10, 11, 8, 12] (by decide +kernel) (by decide +kernel)
set_option maxRecDepth 20000 in
theorem gX8_cell_X8_isSheet : GoodIn wsX8_cell (va_wsS RX8 116 yX8_isSheet wsX8_isSheet) := goodIn_app (goodIn_of _ (by decide +kernel)) ggX8_cell_X8_isSheet
set_option maxRecDepth 20000 in
theorem ggX8_cell_X8_isSort : GoodIn wsX8_cell wsX8_isSort := goodIn_r _ [15, 10, 11, 8, 12] (by decide +kernel) (by decide +kernel)
set_option maxRecDepth 20000 in
theorem gX8_cell_X8_isSort : GoodIn wsX8_cell (va_wsS RX8 120 yX8_isSort wsX8_isSort) := goodIn_app (goodIn_of _ (by decide +kernel)) ggX8_cell_X8_isSort
set_option maxRecDepth 20000 in
theorem ggX8_cell_X8_lost : GoodIn wsX8_cell wsX8_lost := goodIn_r _ [19, 1, 2, 20, 21, 22, 23, 24, 25, 26, 27, 28, 29, 30, 31, 32, 33, 34, 35, 36, 37, 38, 39, 40, 41, 42, 43, 44, 45, 46, 47, 48, 49, 50, 51, 52, 53, 54, 55, 56, 57, 58, 59, 60, 61, 62, 63] (by decide +kernel) (by decide +kernel)
set_option maxRecDepth 20000 in
theorem gX8_cell_X8_lost : GoodIn wsX8_cell (wsV RX8 253 RX8 yX8_lost wsX8_lost) := goodIn_app (goodIn_of _ (by decide +kernel)) ggX8_cell_X8_lost
set_option maxRecDepth 20000 in
theorem ggX8_cell_X8_within : GoodIn wsX8_cell wsX8_within := goodIn_r _ [12] (by decide +kernel) (by decide +kernel)
set_option maxRecDepth 20000 in
theorem gX8_cell_X8_within : GoodIn wsX8_cell (va_wsS RX8 106 yX8_within wsX8_within) := goodIn_app (goodIn_of _ (by decide +kernel)) ggX8_cell_X8_within
theorem dX8_cell_0 : decode cX8_cell 0 = .ok (.aload_n 0, 1) := by decide +kernel
theorem dX8_cell_1 : decode cX8_cell 1 = .ok (.iconst 0, 1) := by decide +kernel
theorem dX8_cell_2 : decode cX8_cell 2 = .ok (.putfield 100, 3) := by decide +kernel
theorem dX8_cell_5 : decode cX8_cell 5 = .ok (.iload_n 1, 1) := by decide +kernel
theorem dX8_cell_6 : decode cX8_cell 6 = .ok (.invokestatic 116, 3) := by decide +kernel
theorem dX8_cell_9 : decode cX8_cell 9 = .ok (.ifCond .eq 10, 3) := by decide +kernel
theorem dX8_cell_12 : decode cX8_cell 12 = .ok (.iload_n 3, 1) := by decide +kernel
theorem dX8_cell_13 : decode cX8_cell 13 = .ok (.invokestatic 120, 3) := by decide +kernel
theorem dX8_cell_16 : decode cX8_cell 16 = .ok (.ifCond .ne 7, 3) := by decide +kernel
theorem dX8_cell_19 : decode cX8_cell 19 = .ok (.ldc2_w 104, 3) := by decide +kernel
theorem dX8_cell_22 : decode cX8_cell 22 = .ok (.lreturn, 1) := by decide +kernel
theorem dX8_cell_23 : decode cX8_cell 23 = .ok (.aload_n 0, 1) := by decide +kernel
theorem dX8_cell_24 : decode cX8_cell 24 = .ok (.getfield 9, 3) := by decide +kernel
theorem dX8_cell_27 : decode cX8_cell 27 = .ok (.iload_n 1, 1) := by decide +kernel
theorem dX8_cell_28 : decode cX8_cell 28 = .ok (.iaload, 1) := by decide +kernel
theorem dX8_cell_29 : decode cX8_cell 29 = .ok (.bipush (-9), 2) := by decide +kernel
theorem dX8_cell_31 : decode cX8_cell 31 = .ok (.if_icmp .eq 19, 3) := by decide +kernel
theorem dX8_cell_34 : decode cX8_cell 34 = .ok (.aload_n 0, 1) := by decide +kernel
theorem dX8_cell_35 : decode cX8_cell 35 = .ok (.getfield 9, 3) := by decide +kernel
theorem dX8_cell_38 : decode cX8_cell 38 = .ok (.iload_n 1, 1) := by decide +kernel
theorem dX8_cell_39 : decode cX8_cell 39 = .ok (.iaload, 1) := by decide +kernel
theorem dX8_cell_40 : decode cX8_cell 40 = .ok (.iload_n 3, 1) := by decide +kernel
theorem dX8_cell_41 : decode cX8_cell 41 = .ok (.if_icmp .eq 9, 3) := by decide +kernel
theorem dX8_cell_44 : decode cX8_cell 44 = .ok (.aload_n 0, 1) := by decide +kernel
theorem dX8_cell_45 : decode cX8_cell 45 = .ok (.iconst 2, 1) := by decide +kernel
theorem dX8_cell_46 : decode cX8_cell 46 = .ok (.invokevirtual 253, 3) := by decide +kernel
theorem dX8_cell_49 : decode cX8_cell 49 = .ok (.lreturn, 1) := by decide +kernel
theorem dX8_cell_50 : decode cX8_cell 50 = .ok (.aload_n 0, 1) := by decide +kernel
theorem dX8_cell_51 : decode cX8_cell 51 = .ok (.getfield 9, 3) := by decide +kernel
theorem dX8_cell_54 : decode cX8_cell 54 = .ok (.iload_n 1, 1) := by decide +kernel
theorem dX8_cell_55 : decode cX8_cell 55 = .ok (.iaload, 1) := by decide +kernel
theorem dX8_cell_56 : decode cX8_cell 56 = .ok (.bipush (-9), 2) := by decide +kernel
theorem dX8_cell_58 : decode cX8_cell 58 = .ok (.if_icmp .ne 9, 3) := by decide +kernel
theorem dX8_cell_61 : decode cX8_cell 61 = .ok (.aload_n 0, 1) := by decide +kernel
theorem dX8_cell_62 : decode cX8_cell 62 = .ok (.iconst 1, 1) := by decide +kernel
theorem dX8_cell_63 : decode cX8_cell 63 = .ok (.invokevirtual 253, 3) := by decide +kernel
theorem dX8_cell_66 : decode cX8_cell 66 = .ok (.lreturn, 1) := by decide +kernel
theorem dX8_cell_67 : decode cX8_cell 67 = .ok (.iload_n 2, 1) := by decide +kernel
theorem dX8_cell_68 : decode cX8_cell 68 = .ok (.iconst 0, 1) := by decide +kernel
theorem dX8_cell_69 : decode cX8_cell 69 = .ok (.aload_n 0, 1) := by decide +kernel
theorem dX8_cell_70 : decode cX8_cell 70 = .ok (.getfield 13, 3) := by decide +kernel
theorem dX8_cell_73 : decode cX8_cell 73 = .ok (.iload_n 1, 1) := by decide +kernel
theorem dX8_cell_74 : decode cX8_cell 74 = .ok (.iaload, 1) := by decide +kernel
theorem dX8_cell_75 : decode cX8_cell 75 = .ok (.iconst 1, 1) := by decide +kernel
theorem dX8_cell_76 : decode cX8_cell 76 = .ok (.isub, 1) := by decide +kernel
theorem dX8_cell_77 : decode cX8_cell 77 = .ok (.invokestatic 106, 3) := by decide +kernel
theorem dX8_cell_80 : decode cX8_cell 80 = .ok (.ifCond .ne 9, 3) := by decide +kernel
theorem dX8_cell_83 : decode cX8_cell 83 = .ok (.aload_n 0, 1) := by decide +kernel
theorem dX8_cell_84 : decode cX8_cell 84 = .ok (.iconst 3, 1) := by decide +kernel
theorem dX8_cell_85 : decode cX8_cell 85 = .ok (.invokevirtual 253, 3) := by decide +kernel
theorem dX8_cell_88 : decode cX8_cell 88 = .ok (.lreturn, 1) := by decide +kernel
theorem dX8_cell_89 : decode cX8_cell 89 = .ok (.aload_n 0, 1) := by decide +kernel
theorem dX8_cell_90 : decode cX8_cell 90 = .ok (.getfield 16, 3) := by decide +kernel
theorem dX8_cell_93 : decode cX8_cell 93 = .ok (.bipush 40, 2) := by decide +kernel
theorem dX8_cell_95 : decode cX8_cell 95 = .ok (.iload_n 1, 1) := by decide +kernel
theorem dX8_cell_96 : decode cX8_cell 96 = .ok (.imul, 1) := by decide +kernel
theorem dX8_cell_97 : decode cX8_cell 97 = .ok (.iload_n 2, 1) := by decide +kernel
theorem dX8_cell_98 : decode cX8_cell 98 = .ok (.iadd, 1) := by decide +kernel
theorem dX8_cell_99 : decode cX8_cell 99 = .ok (.iaload, 1) := by decide +kernel
theorem dX8_cell_100 : decode cX8_cell 100 = .ok (.i2l, 1) := by decide +kernel
theorem dX8_cell_101 : decode cX8_cell 101 = .ok (.lreturn, 1) := by decide +kernel
set_option maxRecDepth 20000 in
theorem ggX8_copy_X8_isSheet : GoodIn wsX8_copy wsX8_isSheet := goodIn_r _ [8, 9, 10, 7, 11] (by decide +kernel) (by decide +kernel)
set_option maxRecDepth 20000 in
theorem gX8_copy_X8_isSheet : GoodIn wsX8_copy (va_wsS RX8 116 yX8_isSheet wsX8_isSheet) := goodIn_app (goodIn_of _ (by decide +kernel)) ggX8_copy_X8_isSheet
set_option maxRecDepth 20000 in
theorem ggX8_copy_X8_fails : GoodIn wsX8_copy wsX8_fails := goodIn_r _ [15, 1, 16, 17, 18, 19, 20, 21, 22, 23, 24, 25, 26, 27, 28, 29, 30, 31, 32, 33, 34, 35, 36, 37, 38, 39, 40, 41, 42, 43, 44, 45, 46, 47, 48, 49, 50, 51, 52, 53, 54, 55, 56, 57, 58, 59] (by decide +kernel) (by decide +kernel)
set_option maxRecDepth 20000 in
theorem gX8_copy_X8_fails : GoodIn wsX8_copy (wsV RX8 127 RX8 yX8_fails wsX8_fails) := goodIn_app (goodIn_of _ (by decide +kernel)) ggX8_copy_X8_fails
theorem dX8_copy_0 : decode cX8_copy 0 = .ok (.aload_n 0, 1) := by decide +kernel
theorem dX8_copy_1 : decode cX8_copy 1 = .ok (.iconst 0, 1) := by decide +kernel
theorem dX8_copy_2 : decode cX8_copy 2 = .ok (.putfield 100, 3) := by decide +kernel
theorem dX8_copy_5 : decode cX8_copy 5 = .ok (.iload_n 1, 1) := by decide +kernel
theorem dX8_copy_6 : decode cX8_copy 6 = .ok (.invokestatic 116, 3) := by decide +kernel
theorem dX8_copy_9 : decode cX8_copy 9 = .ok (.ifCond .eq 10, 3) := by decide +kernel
theorem dX8_copy_12 : decode cX8_copy 12 = .ok (.iload_n 3, 1) := by decide +kernel
theorem dX8_copy_13 : decode cX8_copy 13 = .ok (.invokestatic 116, 3) := by decide +kernel
theorem dX8_copy_16 : decode cX8_copy 16 = .ok (.ifCond .ne 5, 3) := by decide +kernel
theorem dX8_copy_19 : decode cX8_copy 19 = .ok (.iconst (-1), 1) := by decide +kernel
theorem dX8_copy_20 : decode cX8_copy 20 = .ok (.ireturn, 1) := by decide +kernel
theorem dX8_copy_21 : decode cX8_copy 21 = .ok (.aload_n 0, 1) := by decide +kernel
theorem dX8_copy_22 : decode cX8_copy 22 = .ok (.getfield 9, 3) := by decide +kernel
theorem dX8_copy_25 : decode cX8_copy 25 = .ok (.iload_n 1, 1) := by decide +kernel
theorem dX8_copy_26 : decode cX8_copy 26 = .ok (.iaload, 1) := by decide +kernel
theorem dX8_copy_27 : decode cX8_copy 27 = .ok (.bipush (-9), 2) := by decide +kernel
theorem dX8_copy_29 : decode cX8_copy 29 = .ok (.if_icmp .eq 14, 3) := by decide +kernel
theorem dX8_copy_32 : decode cX8_copy 32 = .ok (.aload_n 0, 1) := by decide +kernel
theorem dX8_copy_33 : decode cX8_copy 33 = .ok (.getfield 9, 3) := by decide +kernel
theorem dX8_copy_36 : decode cX8_copy 36 = .ok (.iload_n 3, 1) := by decide +kernel
theorem dX8_copy_37 : decode cX8_copy 37 = .ok (.iaload, 1) := by decide +kernel
theorem dX8_copy_38 : decode cX8_copy 38 = .ok (.bipush (-9), 2) := by decide +kernel
theorem dX8_copy_40 : decode cX8_copy 40 = .ok (.if_icmp .ne 9, 3) := by decide +kernel
theorem dX8_copy_43 : decode cX8_copy 43 = .ok (.aload_n 0, 1) := by decide +kernel
theorem dX8_copy_44 : decode cX8_copy 44 = .ok (.iconst 1, 1) := by decide +kernel
theorem dX8_copy_45 : decode cX8_copy 45 = .ok (.invokevirtual 127, 3) := by decide +kernel
theorem dX8_copy_48 : decode cX8_copy 48 = .ok (.ireturn, 1) := by decide +kernel
theorem dX8_copy_49 : decode cX8_copy 49 = .ok (.aload_n 0, 1) := by decide +kernel
theorem dX8_copy_50 : decode cX8_copy 50 = .ok (.getfield 9, 3) := by decide +kernel
theorem dX8_copy_53 : decode cX8_copy 53 = .ok (.iload_n 1, 1) := by decide +kernel
theorem dX8_copy_54 : decode cX8_copy 54 = .ok (.iaload, 1) := by decide +kernel
theorem dX8_copy_55 : decode cX8_copy 55 = .ok (.aload_n 0, 1) := by decide +kernel
theorem dX8_copy_56 : decode cX8_copy 56 = .ok (.getfield 9, 3) := by decide +kernel
theorem dX8_copy_59 : decode cX8_copy 59 = .ok (.iload_n 3, 1) := by decide +kernel
theorem dX8_copy_60 : decode cX8_copy 60 = .ok (.iaload, 1) := by decide +kernel
theorem dX8_copy_61 : decode cX8_copy 61 = .ok (.if_icmp .eq 9, 3) := by decide +kernel
theorem dX8_copy_64 : decode cX8_copy 64 = .ok (.aload_n 0, 1) := by decide +kernel
theorem dX8_copy_65 : decode cX8_copy 65 = .ok (.iconst 2, 1) := by decide +kernel
theorem dX8_copy_66 : decode cX8_copy 66 = .ok (.invokevirtual 127, 3) := by decide +kernel
theorem dX8_copy_69 : decode cX8_copy 69 = .ok (.ireturn, 1) := by decide +kernel
theorem dX8_copy_70 : decode cX8_copy 70 = .ok (.iload_n 2, 1) := by decide +kernel
theorem dX8_copy_71 : decode cX8_copy 71 = .ok (.ifCond .lt 38, 3) := by decide +kernel
theorem dX8_copy_74 : decode cX8_copy 74 = .ok (.iload 4, 2) := by decide +kernel
theorem dX8_copy_76 : decode cX8_copy 76 = .ok (.ifCond .lt 33, 3) := by decide +kernel
theorem dX8_copy_79 : decode cX8_copy 79 = .ok (.iload 5, 2) := by decide +kernel
theorem dX8_copy_81 : decode cX8_copy 81 = .ok (.ifCond .lt 28, 3) := by decide +kernel
theorem dX8_copy_84 : decode cX8_copy 84 = .ok (.iload_n 2, 1) := by decide +kernel
theorem dX8_copy_85 : decode cX8_copy 85 = .ok (.aload_n 0, 1) := by decide +kernel
theorem dX8_copy_86 : decode cX8_copy 86 = .ok (.getfield 13, 3) := by decide +kernel
theorem dX8_copy_89 : decode cX8_copy 89 = .ok (.iload_n 1, 1) := by decide +kernel
theorem dX8_copy_90 : decode cX8_copy 90 = .ok (.iaload, 1) := by decide +kernel
theorem dX8_copy_91 : decode cX8_copy 91 = .ok (.if_icmp .gt 18, 3) := by decide +kernel
theorem dX8_copy_94 : decode cX8_copy 94 = .ok (.iload 4, 2) := by decide +kernel
theorem dX8_copy_96 : decode cX8_copy 96 = .ok (.aload_n 0, 1) := by decide +kernel
theorem dX8_copy_97 : decode cX8_copy 97 = .ok (.getfield 13, 3) := by decide +kernel
theorem dX8_copy_100 : decode cX8_copy 100 = .ok (.iload_n 3, 1) := by decide +kernel
theorem dX8_copy_101 : decode cX8_copy 101 = .ok (.iaload, 1) := by decide +kernel
theorem dX8_copy_102 : decode cX8_copy 102 = .ok (.if_icmp .gt 7, 3) := by decide +kernel
theorem dX8_copy_105 : decode cX8_copy 105 = .ok (.iconst 1, 1) := by decide +kernel
theorem dX8_copy_106 : decode cX8_copy 106 = .ok (.goto 4, 3) := by decide +kernel
theorem dX8_copy_109 : decode cX8_copy 109 = .ok (.iconst 0, 1) := by decide +kernel
theorem dX8_copy_110 : decode cX8_copy 110 = .ok (.istore 6, 2) := by decide +kernel
theorem dX8_copy_112 : decode cX8_copy 112 = .ok (.iload 6, 2) := by decide +kernel
theorem dX8_copy_114 : decode cX8_copy 114 = .ok (.ifCond .eq 30, 3) := by decide +kernel
theorem dX8_copy_117 : decode cX8_copy 117 = .ok (.iload 5, 2) := by decide +kernel
theorem dX8_copy_119 : decode cX8_copy 119 = .ok (.aload_n 0, 1) := by decide +kernel
theorem dX8_copy_120 : decode cX8_copy 120 = .ok (.getfield 13, 3) := by decide +kernel
theorem dX8_copy_123 : decode cX8_copy 123 = .ok (.iload_n 1, 1) := by decide +kernel
theorem dX8_copy_124 : decode cX8_copy 124 = .ok (.iaload, 1) := by decide +kernel
theorem dX8_copy_125 : decode cX8_copy 125 = .ok (.iload_n 2, 1) := by decide +kernel
theorem dX8_copy_126 : decode cX8_copy 126 = .ok (.isub, 1) := by decide +kernel
theorem dX8_copy_127 : decode cX8_copy 127 = .ok (.if_icmp .gt 17, 3) := by decide +kernel
theorem dX8_copy_130 : decode cX8_copy 130 = .ok (.iload 5, 2) := by decide +kernel
theorem dX8_copy_132 : decode cX8_copy 132 = .ok (.aload_n 0, 1) := by decide +kernel
theorem dX8_copy_133 : decode cX8_copy 133 = .ok (.getfield 13, 3) := by decide +kernel
theorem dX8_copy_136 : decode cX8_copy 136 = .ok (.iload_n 3, 1) := by decide +kernel
theorem dX8_copy_137 : decode cX8_copy 137 = .ok (.iaload, 1) := by decide +kernel
theorem dX8_copy_138 : decode cX8_copy 138 = .ok (.iload 4, 2) := by decide +kernel
theorem dX8_copy_140 : decode cX8_copy 140 = .ok (.isub, 1) := by decide +kernel
theorem dX8_copy_141 : decode cX8_copy 141 = .ok (.if_icmp .le 9, 3) := by decide +kernel
theorem dX8_copy_144 : decode cX8_copy 144 = .ok (.aload_n 0, 1) := by decide +kernel
theorem dX8_copy_145 : decode cX8_copy 145 = .ok (.iconst 3, 1) := by decide +kernel
theorem dX8_copy_146 : decode cX8_copy 146 = .ok (.invokevirtual 127, 3) := by decide +kernel
theorem dX8_copy_149 : decode cX8_copy 149 = .ok (.ireturn, 1) := by decide +kernel
theorem dX8_copy_150 : decode cX8_copy 150 = .ok (.iload_n 2, 1) := by decide +kernel
theorem dX8_copy_151 : decode cX8_copy 151 = .ok (.iload 4, 2) := by decide +kernel
theorem dX8_copy_153 : decode cX8_copy 153 = .ok (.if_icmp .ge 7, 3) := by decide +kernel
theorem dX8_copy_156 : decode cX8_copy 156 = .ok (.iconst 1, 1) := by decide +kernel
theorem dX8_copy_157 : decode cX8_copy 157 = .ok (.goto 4, 3) := by decide +kernel
theorem dX8_copy_160 : decode cX8_copy 160 = .ok (.iconst 0, 1) := by decide +kernel
theorem dX8_copy_161 : decode cX8_copy 161 = .ok (.istore 7, 2) := by decide +kernel
theorem dX8_copy_163 : decode cX8_copy 163 = .ok (.iconst 0, 1) := by decide +kernel
theorem dX8_copy_164 : decode cX8_copy 164 = .ok (.istore 8, 2) := by decide +kernel
theorem dX8_copy_166 : decode cX8_copy 166 = .ok (.iload 8, 2) := by decide +kernel
theorem dX8_copy_168 : decode cX8_copy 168 = .ok (.iload 5, 2) := by decide +kernel
theorem dX8_copy_170 : decode cX8_copy 170 = .ok (.if_icmp .ge 57, 3) := by decide +kernel
theorem dX8_copy_173 : decode cX8_copy 173 = .ok (.iload 7, 2) := by decide +kernel
theorem dX8_copy_175 : decode cX8_copy 175 = .ok (.ifCond .eq 13, 3) := by decide +kernel
theorem dX8_copy_178 : decode cX8_copy 178 = .ok (.iload 5, 2) := by decide +kernel
theorem dX8_copy_180 : decode cX8_copy 180 = .ok (.iconst 1, 1) := by decide +kernel
theorem dX8_copy_181 : decode cX8_copy 181 = .ok (.isub, 1) := by decide +kernel
theorem dX8_copy_182 : decode cX8_copy 182 = .ok (.iload 8, 2) := by decide +kernel
theorem dX8_copy_184 : decode cX8_copy 184 = .ok (.isub, 1) := by decide +kernel
theorem dX8_copy_185 : decode cX8_copy 185 = .ok (.goto 5, 3) := by decide +kernel
theorem dX8_copy_188 : decode cX8_copy 188 = .ok (.iload 8, 2) := by decide +kernel
theorem dX8_copy_190 : decode cX8_copy 190 = .ok (.istore 9, 2) := by decide +kernel
theorem dX8_copy_192 : decode cX8_copy 192 = .ok (.aload_n 0, 1) := by decide +kernel
theorem dX8_copy_193 : decode cX8_copy 193 = .ok (.getfield 16, 3) := by decide +kernel
theorem dX8_copy_196 : decode cX8_copy 196 = .ok (.bipush 40, 2) := by decide +kernel
theorem dX8_copy_198 : decode cX8_copy 198 = .ok (.iload_n 3, 1) := by decide +kernel
theorem dX8_copy_199 : decode cX8_copy 199 = .ok (.imul, 1) := by decide +kernel
theorem dX8_copy_200 : decode cX8_copy 200 = .ok (.iload 4, 2) := by decide +kernel
theorem dX8_copy_202 : decode cX8_copy 202 = .ok (.iadd, 1) := by decide +kernel
theorem dX8_copy_203 : decode cX8_copy 203 = .ok (.iload 9, 2) := by decide +kernel
theorem dX8_copy_205 : decode cX8_copy 205 = .ok (.iadd, 1) := by decide +kernel
theorem dX8_copy_206 : decode cX8_copy 206 = .ok (.aload_n 0, 1) := by decide +kernel
theorem dX8_copy_207 : decode cX8_copy 207 = .ok (.getfield 16, 3) := by decide +kernel
theorem dX8_copy_210 : decode cX8_copy 210 = .ok (.bipush 40, 2) := by decide +kernel
theorem dX8_copy_212 : decode cX8_copy 212 = .ok (.iload_n 1, 1) := by decide +kernel
theorem dX8_copy_213 : decode cX8_copy 213 = .ok (.imul, 1) := by decide +kernel
theorem dX8_copy_214 : decode cX8_copy 214 = .ok (.iload_n 2, 1) := by decide +kernel
theorem dX8_copy_215 : decode cX8_copy 215 = .ok (.iadd, 1) := by decide +kernel
theorem dX8_copy_216 : decode cX8_copy 216 = .ok (.iload 9, 2) := by decide +kernel
theorem dX8_copy_218 : decode cX8_copy 218 = .ok (.iadd, 1) := by decide +kernel
theorem dX8_copy_219 : decode cX8_copy 219 = .ok (.iaload, 1) := by decide +kernel
theorem dX8_copy_220 : decode cX8_copy 220 = .ok (.iastore, 1) := by decide +kernel
theorem dX8_copy_221 : decode cX8_copy 221 = .ok (.iinc 8 1, 3) := by decide +kernel
theorem dX8_copy_224 : decode cX8_copy 224 = .ok (.goto (-58), 3) := by decide +kernel
theorem dX8_copy_227 : decode cX8_copy 227 = .ok (.iload 5, 2) := by decide +kernel
theorem dX8_copy_229 : decode cX8_copy 229 = .ok (.ireturn, 1) := by decide +kernel
theorem dX8_begins_0 : decode cX8_begins 0 = .ok (.aload_n 0, 1) := by decide +kernel
theorem dX8_begins_1 : decode cX8_begins 1 = .ok (.bipush 31, 2) := by decide +kernel
theorem dX8_begins_3 : decode cX8_begins 3 = .ok (.aload_n 0, 1) := by decide +kernel
theorem dX8_begins_4 : decode cX8_begins 4 = .ok (.getfield 257, 3) := by decide +kernel
theorem dX8_begins_7 : decode cX8_begins 7 = .ok (.imul, 1) := by decide +kernel
theorem dX8_begins_8 : decode cX8_begins 8 = .ok (.iload_n 1, 1) := by decide +kernel
theorem dX8_begins_9 : decode cX8_begins 9 = .ok (.iadd, 1) := by decide +kernel
theorem dX8_begins_10 : decode cX8_begins 10 = .ok (.putfield 257, 3) := by decide +kernel
theorem dX8_begins_13 : decode cX8_begins 13 = .ok (.return_, 1) := by decide +kernel
set_option maxRecDepth 20000 in
theorem ggX8_tell_X8_isShot : GoodIn wsX8_tell wsX8_isShot := goodIn_r _ [7, 8, 14, 15, 16, 17, 18, 19, 20, 21, 22, 23, 24, 25, 26, 27, 28, 29, 30, 31, 32, 33, 34, 35, 36, 37, 38, 39, 40, 41, 42, 43, 44, 45, 46, 47, 48, 49, 50, 51, 52, 53, 54, 55, 56, 57] (by decide +kernel) (by decide +kernel)
set_option maxRecDepth 20000 in
theorem gX8_tell_X8_isShot : GoodIn wsX8_tell (wsV RX8 174 RX8 yX8_isShot wsX8_isShot) := goodIn_app (goodIn_of _ (by decide +kernel)) ggX8_tell_X8_isShot
set_option maxRecDepth 20000 in
theorem ggX8_tell_X8_begins : GoodIn wsX8_tell wsX8_begins := goodIn_r _ [12, 13, 14, 15, 16, 17, 18, 19, 20, 21, 22, 23, 24, 25, 26, 27, 28, 29, 30, 31, 32, 33, 34, 35, 36, 37, 38, 39, 40, 41, 42, 43, 44, 45, 46, 47, 48, 49, 50, 51, 52, 53, 54, 55, 56, 57] (by decide +kernel) (by decide +kernel)
set_option maxRecDepth 20000 in
theorem gX8_tell_X8_begins : GoodIn wsX8_tell (wsV RX8 260 RX8 yX8_begins wsX8_begins) := goodIn_app (goodIn_of _ (by decide +kernel)) ggX8_tell_X8_begins
theorem dX8_tell_0 : decode cX8_tell 0 = .ok (.aload_n 0, 1) := by decide +kernel
theorem dX8_tell_1 : decode cX8_tell 1 = .ok (.iload_n 1, 1) := by decide +kernel
theorem dX8_tell_2 : decode cX8_tell 2 = .ok (.invokevirtual 174, 3) := by decide +kernel
theorem dX8_tell_5 : decode cX8_tell 5 = .ok (.ifCond .ne 5, 3) := by decide +kernel
theorem dX8_tell_8 : decode cX8_tell 8 = .ok (.iconst (-1), 1) := by decide +kernel
theorem dX8_tell_9 : decode cX8_tell 9 = .ok (.ireturn, 1) := by decide +kernel
theorem dX8_tell_10 : decode cX8_tell 10 = .ok (.aload_n 0, 1) := by decide +kernel
theorem dX8_tell_11 : decode cX8_tell 11 = .ok (.getfield 55, 3) := by decide +kernel
theorem dX8_tell_14 : decode cX8_tell 14 = .ok (.iload_n 1, 1) := by decide +kernel
theorem dX8_tell_15 : decode cX8_tell 15 = .ok (.iaload, 1) := by decide +kernel
theorem dX8_tell_16 : decode cX8_tell 16 = .ok (.istore_n 2, 1) := by decide +kernel
theorem dX8_tell_17 : decode cX8_tell 17 = .ok (.aload_n 0, 1) := by decide +kernel
theorem dX8_tell_18 : decode cX8_tell 18 = .ok (.getfield 46, 3) := by decide +kernel
theorem dX8_tell_21 : decode cX8_tell 21 = .ok (.iload_n 1, 1) := by decide +kernel
theorem dX8_tell_22 : decode cX8_tell 22 = .ok (.iaload, 1) := by decide +kernel
theorem dX8_tell_23 : decode cX8_tell 23 = .ok (.lookupswitch 67 #[(1, 25), (2, 40)], 25) := by decide +kernel
theorem dX8_tell_48 : decode cX8_tell 48 = .ok (.aload_n 0, 1) := by decide +kernel
theorem dX8_tell_49 : decode cX8_tell 49 = .ok (.iconst 2, 1) := by decide +kernel
theorem dX8_tell_50 : decode cX8_tell 50 = .ok (.invokevirtual 260, 3) := by decide +kernel
theorem dX8_tell_53 : decode cX8_tell 53 = .ok (.aload_n 0, 1) := by decide +kernel
theorem dX8_tell_54 : decode cX8_tell 54 = .ok (.iconst 1, 1) := by decide +kernel
theorem dX8_tell_55 : decode cX8_tell 55 = .ok (.invokevirtual 260, 3) := by decide +kernel
theorem dX8_tell_58 : decode cX8_tell 58 = .ok (.iload_n 2, 1) := by decide +kernel
theorem dX8_tell_59 : decode cX8_tell 59 = .ok (.bipush 100, 2) := by decide +kernel
theorem dX8_tell_61 : decode cX8_tell 61 = .ok (.iadd, 1) := by decide +kernel
theorem dX8_tell_62 : decode cX8_tell 62 = .ok (.ireturn, 1) := by decide +kernel
theorem dX8_tell_63 : decode cX8_tell 63 = .ok (.aload_n 0, 1) := by decide +kernel
theorem dX8_tell_64 : decode cX8_tell 64 = .ok (.iconst 3, 1) := by decide +kernel
theorem dX8_tell_65 : decode cX8_tell 65 = .ok (.invokevirtual 260, 3) := by decide +kernel
theorem dX8_tell_68 : decode cX8_tell 68 = .ok (.aload_n 0, 1) := by decide +kernel
theorem dX8_tell_69 : decode cX8_tell 69 = .ok (.iconst 2, 1) := by decide +kernel
theorem dX8_tell_70 : decode cX8_tell 70 = .ok (.invokevirtual 260, 3) := by decide +kernel
theorem dX8_tell_73 : decode cX8_tell 73 = .ok (.aload_n 0, 1) := by decide +kernel
theorem dX8_tell_74 : decode cX8_tell 74 = .ok (.iconst 1, 1) := by decide +kernel
theorem dX8_tell_75 : decode cX8_tell 75 = .ok (.invokevirtual 260, 3) := by decide +kernel
theorem dX8_tell_78 : decode cX8_tell 78 = .ok (.aload_n 0, 1) := by decide +kernel
theorem dX8_tell_79 : decode cX8_tell 79 = .ok (.iconst 1, 1) := by decide +kernel
theorem dX8_tell_80 : decode cX8_tell 80 = .ok (.invokevirtual 260, 3) := by decide +kernel
theorem dX8_tell_83 : decode cX8_tell 83 = .ok (.iconst 2, 1) := by decide +kernel
theorem dX8_tell_84 : decode cX8_tell 84 = .ok (.iload_n 2, 1) := by decide +kernel
theorem dX8_tell_85 : decode cX8_tell 85 = .ok (.imul, 1) := by decide +kernel
theorem dX8_tell_86 : decode cX8_tell 86 = .ok (.bipush 100, 2) := by decide +kernel
theorem dX8_tell_88 : decode cX8_tell 88 = .ok (.iadd, 1) := by decide +kernel
theorem dX8_tell_89 : decode cX8_tell 89 = .ok (.ireturn, 1) := by decide +kernel
theorem dX8_tell_90 : decode cX8_tell 90 = .ok (.aload_n 0, 1) := by decide +kernel
theorem dX8_tell_91 : decode cX8_tell 91 = .ok (.iconst 1, 1) := by decide +kernel
theorem dX8_tell_92 : decode cX8_tell 92 = .ok (.invokevirtual 260, 3) := by decide +kernel
theorem dX8_tell_95 : decode cX8_tell 95 = .ok (.iload_n 2, 1) := by decide +kernel
theorem dX8_tell_96 : decode cX8_tell 96 = .ok (.ireturn, 1) := by decide +kernel
set_option maxRecDepth 20000 in
theorem ggX8_load_X8_isShot : GoodIn wsX8_load wsX8_isShot := goodIn_r _ [6, 7, 13, 14, 15, 16, 17, 18, 19, 20, 21, 22, 23, 24, 25, 26, 27, 28, 29, 30, 31, 32, 33, 34, 35, 36, 37, 38, 39, 40, 41, 42, 43, 44, 45, 46, 47, 48, 49, 50, 51, 52, 53, 54, 55, 56] (by decide +kernel) (by decide +kernel)
set_option maxRecDepth 20000 in
theorem gX8_load_X8_isShot : GoodIn wsX8_load (wsV RX8 174 RX8 yX8_isShot wsX8_isShot) := goodIn_app (goodIn_of _ (by decide +kernel)) ggX8_load_X8_isShot
set_option maxRecDepth 20000 in
theorem ggX8_load_X8_begins : GoodIn wsX8_load wsX8_begins := goodIn_r _ [11, 12, 13, 14, 15, 16, 17, 18, 19, 20, 21, 22, 23, 24, 25, 26, 27, 28, 29, 30, 31, 32, 33, 34, 35, 36, 37, 38, 39, 40, 41, 42, 43, 44, 45, 46, 47, 48, 49, 50, 51, 52, 53, 54, 55, 56] (by decide +kernel) (by decide +kernel)
set_option maxRecDepth 20000 in
theorem gX8_load_X8_begins : GoodIn wsX8_load (wsV RX8 260 RX8 yX8_begins wsX8_begins) := goodIn_app (goodIn_of _ (by decide +kernel)) ggX8_load_X8_begins
theorem dX8_load_0 : decode cX8_load 0 = .ok (.aload_n 0, 1) := by decide +kernel
theorem dX8_load_1 : decode cX8_load 1 = .ok (.iload_n 1, 1) := by decide +kernel
theorem dX8_load_2 : decode cX8_load 2 = .ok (.invokevirtual 174, 3) := by decide +kernel
theorem dX8_load_5 : decode cX8_load 5 = .ok (.ifCond .ne 5, 3) := by decide +kernel
theorem dX8_load_8 : decode cX8_load 8 = .ok (.iconst (-1), 1) := by decide +kernel
theorem dX8_load_9 : decode cX8_load 9 = .ok (.ireturn, 1) := by decide +kernel
theorem dX8_load_10 : decode cX8_load 10 = .ok (.aload_n 0, 1) := by decide +kernel
theorem dX8_load_11 : decode cX8_load 11 = .ok (.aload_n 0, 1) := by decide +kernel
theorem dX8_load_12 : decode cX8_load 12 = .ok (.getfield 46, 3) := by decide +kernel
theorem dX8_load_15 : decode cX8_load 15 = .ok (.iload_n 1, 1) := by decide +kernel
theorem dX8_load_16 : decode cX8_load 16 = .ok (.iaload, 1) := by decide +kernel
theorem dX8_load_17 : decode cX8_load 17 = .ok (.iconst 2, 1) := by decide +kernel
theorem dX8_load_18 : decode cX8_load 18 = .ok (.if_icmp .ne 7, 3) := by decide +kernel
theorem dX8_load_21 : decode cX8_load 21 = .ok (.iconst 5, 1) := by decide +kernel
theorem dX8_load_22 : decode cX8_load 22 = .ok (.goto 4, 3) := by decide +kernel
theorem dX8_load_25 : decode cX8_load 25 = .ok (.iconst 4, 1) := by decide +kernel
theorem dX8_load_26 : decode cX8_load 26 = .ok (.invokevirtual 260, 3) := by decide +kernel
theorem dX8_load_29 : decode cX8_load 29 = .ok (.aload_n 0, 1) := by decide +kernel
theorem dX8_load_30 : decode cX8_load 30 = .ok (.getfield 46, 3) := by decide +kernel
theorem dX8_load_33 : decode cX8_load 33 = .ok (.iload_n 1, 1) := by decide +kernel
theorem dX8_load_34 : decode cX8_load 34 = .ok (.iaload, 1) := by decide +kernel
theorem dX8_load_35 : decode cX8_load 35 = .ok (.iconst 2, 1) := by decide +kernel
theorem dX8_load_36 : decode cX8_load 36 = .ok (.if_icmp .ne 8, 3) := by decide +kernel
theorem dX8_load_39 : decode cX8_load 39 = .ok (.bipush 80, 2) := by decide +kernel
theorem dX8_load_41 : decode cX8_load 41 = .ok (.goto 4, 3) := by decide +kernel
theorem dX8_load_44 : decode cX8_load 44 = .ok (.iload_n 1, 1) := by decide +kernel
theorem dX8_load_45 : decode cX8_load 45 = .ok (.ireturn, 1) := by decide +kernel
set_option maxRecDepth 20000 in
theorem ggX8_as_X8_isShot : GoodIn wsX8_as wsX8_isShot := goodIn_r _ [7, 8, 16, 17, 18, 19, 20, 21, 22, 23, 24, 25, 26, 27, 28, 29, 30, 31, 32, 33, 34, 35, 36, 37, 38, 39, 40, 41, 42, 43, 44, 45, 46, 47, 48, 49, 50, 51, 52, 53, 54, 55, 56, 57, 58, 59] (by decide +kernel) (by decide +kernel)
set_option maxRecDepth 20000 in
theorem gX8_as_X8_isShot : GoodIn wsX8_as (wsV RX8 174 RX8 yX8_isShot wsX8_isShot) := goodIn_app (goodIn_of _ (by decide +kernel)) ggX8_as_X8_isShot
set_option maxRecDepth 20000 in
theorem ggX8_as_X8_within : GoodIn wsX8_as wsX8_within := goodIn_r _ [11] (by decide +kernel) (by decide +kernel)
set_option maxRecDepth 20000 in
theorem gX8_as_X8_within : GoodIn wsX8_as (va_wsS RX8 106 yX8_within wsX8_within) := goodIn_app (goodIn_of _ (by decide +kernel)) ggX8_as_X8_within
set_option maxRecDepth 20000 in
theorem ggX8_as_X8_fails : GoodIn wsX8_as wsX8_fails := goodIn_r _ [15, 1, 16, 17, 18, 19, 20, 21, 22, 23, 24, 25, 26, 27, 28, 29, 30, 31, 32, 33, 34, 35, 36, 37, 38, 39, 40, 41, 42, 43, 44, 45, 46, 47, 48, 49, 50, 51, 52, 53, 54, 55, 56, 57, 58, 59] (by decide +kernel) (by decide +kernel)
set_option maxRecDepth 20000 in
theorem gX8_as_X8_fails : GoodIn wsX8_as (wsV RX8 127 RX8 yX8_fails wsX8_fails) := goodIn_app (goodIn_of _ (by decide +kernel)) ggX8_as_X8_fails
theorem dX8_as_0 : decode cX8_as 0 = .ok (.aload_n 0, 1) := by decide +kernel
theorem dX8_as_1 : decode cX8_as 1 = .ok (.iconst 0, 1) := by decide +kernel
theorem dX8_as_2 : decode cX8_as 2 = .ok (.putfield 100, 3) := by decide +kernel
theorem dX8_as_5 : decode cX8_as 5 = .ok (.aload_n 0, 1) := by decide +kernel
theorem dX8_as_6 : decode cX8_as 6 = .ok (.iload_n 1, 1) := by decide +kernel
theorem dX8_as_7 : decode cX8_as 7 = .ok (.invokevirtual 174, 3) := by decide +kernel
theorem dX8_as_10 : decode cX8_as 10 = .ok (.ifCond .ne 5, 3) := by decide +kernel
theorem dX8_as_13 : decode cX8_as 13 = .ok (.iconst (-1), 1) := by decide +kernel
theorem dX8_as_14 : decode cX8_as 14 = .ok (.ireturn, 1) := by decide +kernel
theorem dX8_as_15 : decode cX8_as 15 = .ok (.iload_n 2, 1) := by decide +kernel
theorem dX8_as_16 : decode cX8_as 16 = .ok (.iconst 0, 1) := by decide +kernel
theorem dX8_as_17 : decode cX8_as 17 = .ok (.iconst 2, 1) := by decide +kernel
theorem dX8_as_18 : decode cX8_as 18 = .ok (.invokestatic 106, 3) := by decide +kernel
theorem dX8_as_21 : decode cX8_as 21 = .ok (.ifCond .ne 6, 3) := by decide +kernel
theorem dX8_as_24 : decode cX8_as 24 = .ok (.bipush (-2), 2) := by decide +kernel
theorem dX8_as_26 : decode cX8_as 26 = .ok (.ireturn, 1) := by decide +kernel
theorem dX8_as_27 : decode cX8_as 27 = .ok (.aload_n 0, 1) := by decide +kernel
theorem dX8_as_28 : decode cX8_as 28 = .ok (.getfield 46, 3) := by decide +kernel
theorem dX8_as_31 : decode cX8_as 31 = .ok (.iload_n 1, 1) := by decide +kernel
theorem dX8_as_32 : decode cX8_as 32 = .ok (.iaload, 1) := by decide +kernel
theorem dX8_as_33 : decode cX8_as 33 = .ok (.iload_n 2, 1) := by decide +kernel
theorem dX8_as_34 : decode cX8_as 34 = .ok (.if_icmp .lt 7, 3) := by decide +kernel
theorem dX8_as_37 : decode cX8_as 37 = .ok (.iconst 1, 1) := by decide +kernel
theorem dX8_as_38 : decode cX8_as 38 = .ok (.goto 8, 3) := by decide +kernel
theorem dX8_as_41 : decode cX8_as 41 = .ok (.aload_n 0, 1) := by decide +kernel
theorem dX8_as_42 : decode cX8_as 42 = .ok (.iconst 2, 1) := by decide +kernel
theorem dX8_as_43 : decode cX8_as 43 = .ok (.invokevirtual 127, 3) := by decide +kernel
theorem dX8_as_46 : decode cX8_as 46 = .ok (.ireturn, 1) := by decide +kernel
theorem dX8_trace_0 : decode cX8_trace 0 = .ok (.aload_n 0, 1) := by decide +kernel
theorem dX8_trace_1 : decode cX8_trace 1 = .ok (.getfield 257, 3) := by decide +kernel
theorem dX8_trace_4 : decode cX8_trace 4 = .ok (.ireturn, 1) := by decide +kernel
theorem dX8_fault_0 : decode cX8_fault 0 = .ok (.aload_n 0, 1) := by decide +kernel
theorem dX8_fault_1 : decode cX8_fault 1 = .ok (.getfield 100, 3) := by decide +kernel
theorem dX8_fault_4 : decode cX8_fault 4 = .ok (.ireturn, 1) := by decide +kernel
set_option maxRecDepth 20000 in
theorem ggX8_many_X8_isPlain : GoodIn wsX8_many wsX8_isPlain := goodIn_r _ [11, 1, 12, 13, 14, 15, 16, 17, 18, 19, 20, 21, 22, 23, 24, 25, 26, 27, 28, 29, 30, 31, 32, 33, 34, 35, 36, 37, 38, 39, 40, 41, 42, 43, 44, 45, 46, 47, 48, 49, 50, 51, 52, 53, 54, 55] (by decide +kernel) (by decide +kernel)
set_option maxRecDepth 20000 in
theorem gX8_many_X8_isPlain : GoodIn wsX8_many (wsV RX8 163 RX8 yX8_isPlain wsX8_isPlain) := goodIn_app (goodIn_of _ (by decide +kernel)) ggX8_many_X8_isPlain
theorem dX8_many_0 : decode cX8_many 0 = .ok (.iload_n 1, 1) := by decide +kernel
theorem dX8_many_1 : decode cX8_many 1 = .ok (.tableswitch 83 0 5 #[39, 44, 49, 54, 73, 78], 39) := by decide +kernel
theorem dX8_many_40 : decode cX8_many 40 = .ok (.aload_n 0, 1) := by decide +kernel
theorem dX8_many_41 : decode cX8_many 41 = .ok (.getfield 110, 3) := by decide +kernel
theorem dX8_many_44 : decode cX8_many 44 = .ok (.ireturn, 1) := by decide +kernel
theorem dX8_many_45 : decode cX8_many 45 = .ok (.aload_n 0, 1) := by decide +kernel
theorem dX8_many_46 : decode cX8_many 46 = .ok (.getfield 137, 3) := by decide +kernel
theorem dX8_many_49 : decode cX8_many 49 = .ok (.ireturn, 1) := by decide +kernel
theorem dX8_many_50 : decode cX8_many 50 = .ok (.aload_n 0, 1) := by decide +kernel
theorem dX8_many_51 : decode cX8_many 51 = .ok (.getfield 140, 3) := by decide +kernel
theorem dX8_many_54 : decode cX8_many 54 = .ok (.ireturn, 1) := by decide +kernel
theorem dX8_many_55 : decode cX8_many 55 = .ok (.aload_n 0, 1) := by decide +kernel
theorem dX8_many_56 : decode cX8_many 56 = .ok (.invokevirtual 163, 3) := by decide +kernel
theorem dX8_many_59 : decode cX8_many 59 = .ok (.ifCond .eq 13, 3) := by decide +kernel
theorem dX8_many_62 : decode cX8_many 62 = .ok (.aload_n 0, 1) := by decide +kernel
theorem dX8_many_63 : decode cX8_many 63 = .ok (.getfield 143, 3) := by decide +kernel
theorem dX8_many_66 : decode cX8_many 66 = .ok (.bipush 10, 2) := by decide +kernel
theorem dX8_many_68 : decode cX8_many 68 = .ok (.iadd, 1) := by decide +kernel
theorem dX8_many_69 : decode cX8_many 69 = .ok (.goto 4, 3) := by decide +kernel
theorem dX8_many_72 : decode cX8_many 72 = .ok (.iconst 0, 1) := by decide +kernel
theorem dX8_many_73 : decode cX8_many 73 = .ok (.ireturn, 1) := by decide +kernel
theorem dX8_many_74 : decode cX8_many 74 = .ok (.aload_n 0, 1) := by decide +kernel
theorem dX8_many_75 : decode cX8_many 75 = .ok (.getfield 146, 3) := by decide +kernel
theorem dX8_many_78 : decode cX8_many 78 = .ok (.ireturn, 1) := by decide +kernel
theorem dX8_many_79 : decode cX8_many 79 = .ok (.aload_n 0, 1) := by decide +kernel
theorem dX8_many_80 : decode cX8_many 80 = .ok (.getfield 149, 3) := by decide +kernel
theorem dX8_many_83 : decode cX8_many 83 = .ok (.ireturn, 1) := by decide +kernel
theorem dX8_many_84 : decode cX8_many 84 = .ok (.bipush (-2), 2) := by decide +kernel
theorem dX8_many_86 : decode cX8_many 86 = .ok (.ireturn, 1) := by decide +kernel
