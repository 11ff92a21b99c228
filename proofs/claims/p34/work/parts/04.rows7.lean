theorem dX7_init_0 : decode cX7_init 0 = .ok (.aload_n 0, 1) := by decide +kernel
theorem dX7_init_1 : decode cX7_init 1 = .ok (.invokespecial 3, 3) := by decide +kernel
theorem dX7_init_4 : decode cX7_init 4 = .ok (.aload_n 0, 1) := by decide +kernel
theorem dX7_init_5 : decode cX7_init 5 = .ok (.iconst 4, 1) := by decide +kernel
theorem dX7_init_6 : decode cX7_init 6 = .ok (.anewarray 11, 3) := by decide +kernel
theorem dX7_init_9 : decode cX7_init 9 = .ok (.putfield 13, 3) := by decide +kernel
theorem dX7_init_12 : decode cX7_init 12 = .ok (.iconst 0, 1) := by decide +kernel
theorem dX7_init_13 : decode cX7_init 13 = .ok (.istore_n 1, 1) := by decide +kernel
theorem dX7_init_14 : decode cX7_init 14 = .ok (.iload_n 1, 1) := by decide +kernel
theorem dX7_init_15 : decode cX7_init 15 = .ok (.iconst 4, 1) := by decide +kernel
theorem dX7_init_16 : decode cX7_init 16 = .ok (.if_icmp .ge 22, 3) := by decide +kernel
theorem dX7_init_19 : decode cX7_init 19 = .ok (.aload_n 0, 1) := by decide +kernel
theorem dX7_init_20 : decode cX7_init 20 = .ok (.getfield 13, 3) := by decide +kernel
theorem dX7_init_23 : decode cX7_init 23 = .ok (.iload_n 1, 1) := by decide +kernel
theorem dX7_init_24 : decode cX7_init 24 = .ok (.new 11, 3) := by decide +kernel
theorem dX7_init_27 : decode cX7_init 27 = .ok (.dup, 1) := by decide +kernel
theorem dX7_init_28 : decode cX7_init 28 = .ok (.invokespecial 17, 3) := by decide +kernel
theorem dX7_init_31 : decode cX7_init 31 = .ok (.aastore, 1) := by decide +kernel
theorem dX7_init_32 : decode cX7_init 32 = .ok (.iinc 1 1, 3) := by decide +kernel
theorem dX7_init_35 : decode cX7_init 35 = .ok (.goto (-21), 3) := by decide +kernel
theorem dX7_init_38 : decode cX7_init 38 = .ok (.aload_n 0, 1) := by decide +kernel
theorem dX7_init_39 : decode cX7_init 39 = .ok (.new 18, 3) := by decide +kernel
theorem dX7_init_42 : decode cX7_init 42 = .ok (.dup, 1) := by decide +kernel
theorem dX7_init_43 : decode cX7_init 43 = .ok (.invokespecial 20, 3) := by decide +kernel
theorem dX7_init_46 : decode cX7_init 46 = .ok (.putfield 21, 3) := by decide +kernel
theorem dX7_init_49 : decode cX7_init 49 = .ok (.aload_n 0, 1) := by decide +kernel
theorem dX7_init_50 : decode cX7_init 50 = .ok (.new 25, 3) := by decide +kernel
theorem dX7_init_53 : decode cX7_init 53 = .ok (.dup, 1) := by decide +kernel
theorem dX7_init_54 : decode cX7_init 54 = .ok (.invokespecial 27, 3) := by decide +kernel
theorem dX7_init_57 : decode cX7_init 57 = .ok (.putfield 28, 3) := by decide +kernel
theorem dX7_init_60 : decode cX7_init 60 = .ok (.aload_n 0, 1) := by decide +kernel
theorem dX7_init_61 : decode cX7_init 61 = .ok (.new 32, 3) := by decide +kernel
theorem dX7_init_64 : decode cX7_init 64 = .ok (.dup, 1) := by decide +kernel
theorem dX7_init_65 : decode cX7_init 65 = .ok (.invokespecial 34, 3) := by decide +kernel
theorem dX7_init_68 : decode cX7_init 68 = .ok (.putfield 35, 3) := by decide +kernel
theorem dX7_init_71 : decode cX7_init 71 = .ok (.aload_n 0, 1) := by decide +kernel
theorem dX7_init_72 : decode cX7_init 72 = .ok (.new 39, 3) := by decide +kernel
theorem dX7_init_75 : decode cX7_init 75 = .ok (.dup, 1) := by decide +kernel
theorem dX7_init_76 : decode cX7_init 76 = .ok (.aload_n 0, 1) := by decide +kernel
theorem dX7_init_77 : decode cX7_init 77 = .ok (.getfield 21, 3) := by decide +kernel
theorem dX7_init_80 : decode cX7_init 80 = .ok (.aload_n 0, 1) := by decide +kernel
theorem dX7_init_81 : decode cX7_init 81 = .ok (.getfield 28, 3) := by decide +kernel
theorem dX7_init_84 : decode cX7_init 84 = .ok (.aload_n 0, 1) := by decide +kernel
theorem dX7_init_85 : decode cX7_init 85 = .ok (.getfield 35, 3) := by decide +kernel
theorem dX7_init_88 : decode cX7_init 88 = .ok (.invokespecial 41, 3) := by decide +kernel
theorem dX7_init_91 : decode cX7_init 91 = .ok (.putfield 44, 3) := by decide +kernel
theorem dX7_init_94 : decode cX7_init 94 = .ok (.aload_n 0, 1) := by decide +kernel
theorem dX7_init_95 : decode cX7_init 95 = .ok (.new 48, 3) := by decide +kernel
theorem dX7_init_98 : decode cX7_init 98 = .ok (.dup, 1) := by decide +kernel
theorem dX7_init_99 : decode cX7_init 99 = .ok (.aload_n 0, 1) := by decide +kernel
theorem dX7_init_100 : decode cX7_init 100 = .ok (.getfield 21, 3) := by decide +kernel
theorem dX7_init_103 : decode cX7_init 103 = .ok (.aload_n 0, 1) := by decide +kernel
theorem dX7_init_104 : decode cX7_init 104 = .ok (.getfield 35, 3) := by decide +kernel
theorem dX7_init_107 : decode cX7_init 107 = .ok (.aload_n 0, 1) := by decide +kernel
theorem dX7_init_108 : decode cX7_init 108 = .ok (.getfield 44, 3) := by decide +kernel
theorem dX7_init_111 : decode cX7_init 111 = .ok (.invokespecial 50, 3) := by decide +kernel
theorem dX7_init_114 : decode cX7_init 114 = .ok (.putfield 53, 3) := by decide +kernel
theorem dX7_init_117 : decode cX7_init 117 = .ok (.aload_n 0, 1) := by decide +kernel
theorem dX7_init_118 : decode cX7_init 118 = .ok (.new 57, 3) := by decide +kernel
theorem dX7_init_121 : decode cX7_init 121 = .ok (.dup, 1) := by decide +kernel
theorem dX7_init_122 : decode cX7_init 122 = .ok (.aload_n 0, 1) := by decide +kernel
theorem dX7_init_123 : decode cX7_init 123 = .ok (.getfield 21, 3) := by decide +kernel
theorem dX7_init_126 : decode cX7_init 126 = .ok (.aload_n 0, 1) := by decide +kernel
theorem dX7_init_127 : decode cX7_init 127 = .ok (.getfield 35, 3) := by decide +kernel
theorem dX7_init_130 : decode cX7_init 130 = .ok (.aload_n 0, 1) := by decide +kernel
theorem dX7_init_131 : decode cX7_init 131 = .ok (.getfield 44, 3) := by decide +kernel
theorem dX7_init_134 : decode cX7_init 134 = .ok (.invokespecial 59, 3) := by decide +kernel
theorem dX7_init_137 : decode cX7_init 137 = .ok (.putfield 60, 3) := by decide +kernel
theorem dX7_init_140 : decode cX7_init 140 = .ok (.aload_n 0, 1) := by decide +kernel
theorem dX7_init_141 : decode cX7_init 141 = .ok (.iconst 0, 1) := by decide +kernel
theorem dX7_init_142 : decode cX7_init 142 = .ok (.putfield 64, 3) := by decide +kernel
theorem dX7_init_145 : decode cX7_init 145 = .ok (.aload_n 0, 1) := by decide +kernel
theorem dX7_init_146 : decode cX7_init 146 = .ok (.iconst 0, 1) := by decide +kernel
theorem dX7_init_147 : decode cX7_init 147 = .ok (.putfield 68, 3) := by decide +kernel
theorem dX7_init_150 : decode cX7_init 150 = .ok (.return_, 1) := by decide +kernel
set_option maxRecDepth 20000 in
theorem ggX7_plain_X7_isSheet : GoodIn wsX7_plain wsX7_isSheet := goodIn_r _ [12, 13, 14, 11, 15] (by decide +kernel) (by decide +kernel)
set_option maxRecDepth 20000 in
theorem gX7_plain_X7_isSheet : GoodIn wsX7_plain (va_wsS RX7 71 yX7_isSheet wsX7_isSheet) := goodIn_app (goodIn_of _ (by decide +kernel)) ggX7_plain_X7_isSheet
set_option maxRecDepth 20000 in
theorem ggX7_plain_X7_isSort : GoodIn wsX7_plain wsX7_isSort := goodIn_r _ [18, 13, 14, 11, 15] (by decide +kernel) (by decide +kernel)
set_option maxRecDepth 20000 in
theorem gX7_plain_X7_isSort : GoodIn wsX7_plain (va_wsS RX7 75 yX7_isSort wsX7_isSort) := goodIn_app (goodIn_of _ (by decide +kernel)) ggX7_plain_X7_isSort
set_option maxRecDepth 20000 in
theorem ggX7_plain_X4_faultOfCells : GoodIn wsX7_plain wsX4_faultOfCells := goodIn_r _ [23, 24, 25, 26, 27, 22, 28, 29, 30, 31, 32, 33, 90, 91, 92] (by decide +kernel) (by decide +kernel)
set_option maxRecDepth 20000 in
theorem gX7_plain_X4_faultOfCells : GoodIn wsX7_plain (wsV RX7 78 RX4 yX4_faultOfCells wsX4_faultOfCells) := goodIn_app (goodIn_of _ (by decide +kernel)) ggX7_plain_X4_faultOfCells
set_option maxRecDepth 20000 in
theorem ggX7_plain_X7_faulted : GoodIn wsX7_plain wsX7_faulted := goodIn_r _ [37, 1, 65, 66, 67, 68, 69, 70, 71, 72, 73] (by decide +kernel) (by decide +kernel)
set_option maxRecDepth 20000 in
theorem gX7_plain_X7_faulted : GoodIn wsX7_plain (wsV RX7 82 RX7 yX7_faulted wsX7_faulted) := goodIn_app (goodIn_of _ (by decide +kernel)) ggX7_plain_X7_faulted
set_option maxRecDepth 20000 in
theorem ggX7_plain_X3_faultOfText : GoodIn wsX7_plain wsX3_faultOfText := goodIn_r _ [41, 42, 43, 44, 22, 45, 46, 47, 48, 40, 49, 90, 91, 92] (by decide +kernel) (by decide +kernel)
set_option maxRecDepth 20000 in
theorem gX7_plain_X3_faultOfText : GoodIn wsX7_plain (va_wsS RX7 86 yX3_faultOfText wsX3_faultOfText) := goodIn_app (goodIn_of _ (by decide +kernel)) ggX7_plain_X3_faultOfText
set_option maxRecDepth 20000 in
theorem ggX7_plain_X3_takeText : GoodIn wsX7_plain wsX3_takeText := goodIn_r _ [53, 54, 55, 56, 57, 58, 59, 60, 61, 62, 63, 64, 42, 43, 44, 22, 45, 46, 83, 84, 85, 86, 87, 88, 89, 90, 91, 92] (by decide +kernel) (by decide +kernel)
set_option maxRecDepth 20000 in
theorem gX7_plain_X3_takeText : GoodIn wsX7_plain (wsV RX7 90 RX3 yX3_takeText wsX3_takeText) := goodIn_app (goodIn_of _ (by decide +kernel)) ggX7_plain_X3_takeText
theorem dX7_plain_0 : decode cX7_plain 0 = .ok (.aload_n 0, 1) := by decide +kernel
theorem dX7_plain_1 : decode cX7_plain 1 = .ok (.iconst 0, 1) := by decide +kernel
theorem dX7_plain_2 : decode cX7_plain 2 = .ok (.putfield 68, 3) := by decide +kernel
theorem dX7_plain_5 : decode cX7_plain 5 = .ok (.iload_n 1, 1) := by decide +kernel
theorem dX7_plain_6 : decode cX7_plain 6 = .ok (.invokestatic 71, 3) := by decide +kernel
theorem dX7_plain_9 : decode cX7_plain 9 = .ok (.ifCond .ne 5, 3) := by decide +kernel
theorem dX7_plain_12 : decode cX7_plain 12 = .ok (.iconst (-1), 1) := by decide +kernel
theorem dX7_plain_13 : decode cX7_plain 13 = .ok (.ireturn, 1) := by decide +kernel
theorem dX7_plain_14 : decode cX7_plain 14 = .ok (.iload_n 2, 1) := by decide +kernel
theorem dX7_plain_15 : decode cX7_plain 15 = .ok (.invokestatic 75, 3) := by decide +kernel
theorem dX7_plain_18 : decode cX7_plain 18 = .ok (.ifCond .ne 6, 3) := by decide +kernel
theorem dX7_plain_21 : decode cX7_plain 21 = .ok (.bipush (-2), 2) := by decide +kernel
theorem dX7_plain_23 : decode cX7_plain 23 = .ok (.ireturn, 1) := by decide +kernel
theorem dX7_plain_24 : decode cX7_plain 24 = .ok (.aload_n 0, 1) := by decide +kernel
theorem dX7_plain_25 : decode cX7_plain 25 = .ok (.getfield 13, 3) := by decide +kernel
theorem dX7_plain_28 : decode cX7_plain 28 = .ok (.iload_n 1, 1) := by decide +kernel
theorem dX7_plain_29 : decode cX7_plain 29 = .ok (.aaload, 1) := by decide +kernel
theorem dX7_plain_30 : decode cX7_plain 30 = .ok (.astore 5, 2) := by decide +kernel
theorem dX7_plain_32 : decode cX7_plain 32 = .ok (.aload 5, 2) := by decide +kernel
theorem dX7_plain_34 : decode cX7_plain 34 = .ok (.iload_n 2, 1) := by decide +kernel
theorem dX7_plain_35 : decode cX7_plain 35 = .ok (.iload_n 3, 1) := by decide +kernel
theorem dX7_plain_36 : decode cX7_plain 36 = .ok (.iload 4, 2) := by decide +kernel
theorem dX7_plain_38 : decode cX7_plain 38 = .ok (.invokevirtual 78, 3) := by decide +kernel
theorem dX7_plain_41 : decode cX7_plain 41 = .ok (.istore 6, 2) := by decide +kernel
theorem dX7_plain_43 : decode cX7_plain 43 = .ok (.iload 6, 2) := by decide +kernel
theorem dX7_plain_45 : decode cX7_plain 45 = .ok (.ifCond .eq 10, 3) := by decide +kernel
theorem dX7_plain_48 : decode cX7_plain 48 = .ok (.aload_n 0, 1) := by decide +kernel
theorem dX7_plain_49 : decode cX7_plain 49 = .ok (.iload 6, 2) := by decide +kernel
theorem dX7_plain_51 : decode cX7_plain 51 = .ok (.invokevirtual 82, 3) := by decide +kernel
theorem dX7_plain_54 : decode cX7_plain 54 = .ok (.ireturn, 1) := by decide +kernel
theorem dX7_plain_55 : decode cX7_plain 55 = .ok (.aload 5, 2) := by decide +kernel
theorem dX7_plain_57 : decode cX7_plain 57 = .ok (.iload_n 3, 1) := by decide +kernel
theorem dX7_plain_58 : decode cX7_plain 58 = .ok (.iload 4, 2) := by decide +kernel
theorem dX7_plain_60 : decode cX7_plain 60 = .ok (.invokestatic 86, 3) := by decide +kernel
theorem dX7_plain_63 : decode cX7_plain 63 = .ok (.istore 7, 2) := by decide +kernel
theorem dX7_plain_65 : decode cX7_plain 65 = .ok (.iload 7, 2) := by decide +kernel
theorem dX7_plain_67 : decode cX7_plain 67 = .ok (.ifCond .lt 9, 3) := by decide +kernel
theorem dX7_plain_70 : decode cX7_plain 70 = .ok (.bipush (-100), 2) := by decide +kernel
theorem dX7_plain_72 : decode cX7_plain 72 = .ok (.iload 7, 2) := by decide +kernel
theorem dX7_plain_74 : decode cX7_plain 74 = .ok (.isub, 1) := by decide +kernel
theorem dX7_plain_75 : decode cX7_plain 75 = .ok (.ireturn, 1) := by decide +kernel
theorem dX7_plain_76 : decode cX7_plain 76 = .ok (.aload_n 0, 1) := by decide +kernel
theorem dX7_plain_77 : decode cX7_plain 77 = .ok (.getfield 21, 3) := by decide +kernel
theorem dX7_plain_80 : decode cX7_plain 80 = .ok (.aload 5, 2) := by decide +kernel
theorem dX7_plain_82 : decode cX7_plain 82 = .ok (.iload_n 3, 1) := by decide +kernel
theorem dX7_plain_83 : decode cX7_plain 83 = .ok (.iload 4, 2) := by decide +kernel
theorem dX7_plain_85 : decode cX7_plain 85 = .ok (.invokevirtual 90, 3) := by decide +kernel
theorem dX7_plain_88 : decode cX7_plain 88 = .ok (.aload_n 0, 1) := by decide +kernel
theorem dX7_plain_89 : decode cX7_plain 89 = .ok (.getfield 28, 3) := by decide +kernel
theorem dX7_plain_92 : decode cX7_plain 92 = .ok (.iconst 0, 1) := by decide +kernel
theorem dX7_plain_93 : decode cX7_plain 93 = .ok (.putfield 94, 3) := by decide +kernel
theorem dX7_plain_96 : decode cX7_plain 96 = .ok (.aload_n 0, 1) := by decide +kernel
theorem dX7_plain_97 : decode cX7_plain 97 = .ok (.getfield 35, 3) := by decide +kernel
theorem dX7_plain_100 : decode cX7_plain 100 = .ok (.iconst 0, 1) := by decide +kernel
theorem dX7_plain_101 : decode cX7_plain 101 = .ok (.putfield 97, 3) := by decide +kernel
theorem dX7_plain_104 : decode cX7_plain 104 = .ok (.aload_n 0, 1) := by decide +kernel
theorem dX7_plain_105 : decode cX7_plain 105 = .ok (.getfield 21, 3) := by decide +kernel
theorem dX7_plain_108 : decode cX7_plain 108 = .ok (.getfield 98, 3) := by decide +kernel
theorem dX7_plain_111 : decode cX7_plain 111 = .ok (.ireturn, 1) := by decide +kernel
set_option maxRecDepth 20000 in
theorem ggX7_set_X7_isSetting : GoodIn wsX7_set wsX7_isSetting := goodIn_r _ [9, 10, 11, 8, 12] (by decide +kernel) (by decide +kernel)
set_option maxRecDepth 20000 in
theorem gX7_set_X7_isSetting : GoodIn wsX7_set (va_wsS RX7 112 yX7_isSetting wsX7_isSetting) := goodIn_app (goodIn_of _ (by decide +kernel)) ggX7_set_X7_isSetting
theorem dX7_set_0 : decode cX7_set 0 = .ok (.iload_n 1, 1) := by decide +kernel
theorem dX7_set_1 : decode cX7_set 1 = .ok (.iload_n 2, 1) := by decide +kernel
theorem dX7_set_2 : decode cX7_set 2 = .ok (.invokestatic 112, 3) := by decide +kernel
theorem dX7_set_5 : decode cX7_set 5 = .ok (.ifCond .ne 6, 3) := by decide +kernel
theorem dX7_set_8 : decode cX7_set 8 = .ok (.bipush (-2), 2) := by decide +kernel
theorem dX7_set_10 : decode cX7_set 10 = .ok (.ireturn, 1) := by decide +kernel
theorem dX7_set_11 : decode cX7_set 11 = .ok (.aload_n 0, 1) := by decide +kernel
theorem dX7_set_12 : decode cX7_set 12 = .ok (.getfield 21, 3) := by decide +kernel
theorem dX7_set_15 : decode cX7_set 15 = .ok (.getfield 98, 3) := by decide +kernel
theorem dX7_set_18 : decode cX7_set 18 = .ok (.ifCond .ne 6, 3) := by decide +kernel
theorem dX7_set_21 : decode cX7_set 21 = .ok (.bipush (-3), 2) := by decide +kernel
theorem dX7_set_23 : decode cX7_set 23 = .ok (.ireturn, 1) := by decide +kernel
theorem dX7_set_24 : decode cX7_set 24 = .ok (.iload_n 1, 1) := by decide +kernel
theorem dX7_set_25 : decode cX7_set 25 = .ok (.ifCond .ne 25, 3) := by decide +kernel
theorem dX7_set_28 : decode cX7_set 28 = .ok (.aload_n 0, 1) := by decide +kernel
theorem dX7_set_29 : decode cX7_set 29 = .ok (.getfield 21, 3) := by decide +kernel
theorem dX7_set_32 : decode cX7_set 32 = .ok (.getfield 116, 3) := by decide +kernel
theorem dX7_set_35 : decode cX7_set 35 = .ok (.bipush 10, 2) := by decide +kernel
theorem dX7_set_37 : decode cX7_set 37 = .ok (.iadd, 1) := by decide +kernel
theorem dX7_set_38 : decode cX7_set 38 = .ok (.istore_n 3, 1) := by decide +kernel
theorem dX7_set_39 : decode cX7_set 39 = .ok (.aload_n 0, 1) := by decide +kernel
theorem dX7_set_40 : decode cX7_set 40 = .ok (.getfield 21, 3) := by decide +kernel
theorem dX7_set_43 : decode cX7_set 43 = .ok (.iload_n 2, 1) := by decide +kernel
theorem dX7_set_44 : decode cX7_set 44 = .ok (.putfield 116, 3) := by decide +kernel
theorem dX7_set_47 : decode cX7_set 47 = .ok (.goto 43, 3) := by decide +kernel
theorem dX7_set_50 : decode cX7_set 50 = .ok (.iload_n 1, 1) := by decide +kernel
theorem dX7_set_51 : decode cX7_set 51 = .ok (.iconst 1, 1) := by decide +kernel
theorem dX7_set_52 : decode cX7_set 52 = .ok (.if_icmp .ne 22, 3) := by decide +kernel
theorem dX7_set_55 : decode cX7_set 55 = .ok (.aload_n 0, 1) := by decide +kernel
theorem dX7_set_56 : decode cX7_set 56 = .ok (.getfield 21, 3) := by decide +kernel
theorem dX7_set_59 : decode cX7_set 59 = .ok (.getfield 119, 3) := by decide +kernel
theorem dX7_set_62 : decode cX7_set 62 = .ok (.istore_n 3, 1) := by decide +kernel
theorem dX7_set_63 : decode cX7_set 63 = .ok (.aload_n 0, 1) := by decide +kernel
theorem dX7_set_64 : decode cX7_set 64 = .ok (.getfield 21, 3) := by decide +kernel
theorem dX7_set_67 : decode cX7_set 67 = .ok (.iload_n 2, 1) := by decide +kernel
theorem dX7_set_68 : decode cX7_set 68 = .ok (.putfield 119, 3) := by decide +kernel
theorem dX7_set_71 : decode cX7_set 71 = .ok (.goto 19, 3) := by decide +kernel
theorem dX7_set_74 : decode cX7_set 74 = .ok (.aload_n 0, 1) := by decide +kernel
theorem dX7_set_75 : decode cX7_set 75 = .ok (.getfield 21, 3) := by decide +kernel
theorem dX7_set_78 : decode cX7_set 78 = .ok (.getfield 122, 3) := by decide +kernel
theorem dX7_set_81 : decode cX7_set 81 = .ok (.istore_n 3, 1) := by decide +kernel
theorem dX7_set_82 : decode cX7_set 82 = .ok (.aload_n 0, 1) := by decide +kernel
theorem dX7_set_83 : decode cX7_set 83 = .ok (.getfield 21, 3) := by decide +kernel
theorem dX7_set_86 : decode cX7_set 86 = .ok (.iload_n 2, 1) := by decide +kernel
theorem dX7_set_87 : decode cX7_set 87 = .ok (.putfield 122, 3) := by decide +kernel
theorem dX7_set_90 : decode cX7_set 90 = .ok (.iload_n 3, 1) := by decide +kernel
theorem dX7_set_91 : decode cX7_set 91 = .ok (.ireturn, 1) := by decide +kernel
set_option maxRecDepth 20000 in
theorem ggX7_cloud_X7_isWithin : GoodIn wsX7_cloud wsX7_isWithin := goodIn_r _ [8] (by decide +kernel) (by decide +kernel)
set_option maxRecDepth 20000 in
theorem gX7_cloud_X7_isWithin : GoodIn wsX7_cloud (va_wsS RX7 125 yX7_isWithin wsX7_isWithin) := goodIn_app (goodIn_of _ (by decide +kernel)) ggX7_cloud_X7_isWithin
set_option maxRecDepth 20000 in
theorem ggX7_cloud_X6_add : GoodIn wsX7_cloud wsX6_add := goodIn_r _ [13, 14, 15, 16, 17, 34, 35, 36, 37] (by decide +kernel) (by decide +kernel)
set_option maxRecDepth 20000 in
theorem gX7_cloud_X6_add : GoodIn wsX7_cloud (wsV RX7 129 RX6 yX6_add wsX6_add) := goodIn_app (goodIn_of _ (by decide +kernel)) ggX7_cloud_X6_add
theorem dX7_cloud_0 : decode cX7_cloud 0 = .ok (.iload_n 1, 1) := by decide +kernel
theorem dX7_cloud_1 : decode cX7_cloud 1 = .ok (.bipush (-20), 2) := by decide +kernel
theorem dX7_cloud_3 : decode cX7_cloud 3 = .ok (.bipush 20, 2) := by decide +kernel
theorem dX7_cloud_5 : decode cX7_cloud 5 = .ok (.invokestatic 125, 3) := by decide +kernel
theorem dX7_cloud_8 : decode cX7_cloud 8 = .ok (.ifCond .eq 23, 3) := by decide +kernel
theorem dX7_cloud_11 : decode cX7_cloud 11 = .ok (.iload_n 2, 1) := by decide +kernel
theorem dX7_cloud_12 : decode cX7_cloud 12 = .ok (.iconst 1, 1) := by decide +kernel
theorem dX7_cloud_13 : decode cX7_cloud 13 = .ok (.bipush 30, 2) := by decide +kernel
theorem dX7_cloud_15 : decode cX7_cloud 15 = .ok (.invokestatic 125, 3) := by decide +kernel
theorem dX7_cloud_18 : decode cX7_cloud 18 = .ok (.ifCond .eq 13, 3) := by decide +kernel
theorem dX7_cloud_21 : decode cX7_cloud 21 = .ok (.iload_n 3, 1) := by decide +kernel
theorem dX7_cloud_22 : decode cX7_cloud 22 = .ok (.iconst 1, 1) := by decide +kernel
theorem dX7_cloud_23 : decode cX7_cloud 23 = .ok (.bipush 9, 2) := by decide +kernel
theorem dX7_cloud_25 : decode cX7_cloud 25 = .ok (.invokestatic 125, 3) := by decide +kernel
theorem dX7_cloud_28 : decode cX7_cloud 28 = .ok (.ifCond .ne 6, 3) := by decide +kernel
theorem dX7_cloud_31 : decode cX7_cloud 31 = .ok (.bipush (-2), 2) := by decide +kernel
theorem dX7_cloud_33 : decode cX7_cloud 33 = .ok (.ireturn, 1) := by decide +kernel
theorem dX7_cloud_34 : decode cX7_cloud 34 = .ok (.aload_n 0, 1) := by decide +kernel
theorem dX7_cloud_35 : decode cX7_cloud 35 = .ok (.getfield 21, 3) := by decide +kernel
theorem dX7_cloud_38 : decode cX7_cloud 38 = .ok (.getfield 98, 3) := by decide +kernel
theorem dX7_cloud_41 : decode cX7_cloud 41 = .ok (.ifCond .ne 6, 3) := by decide +kernel
theorem dX7_cloud_44 : decode cX7_cloud 44 = .ok (.bipush (-3), 2) := by decide +kernel
theorem dX7_cloud_46 : decode cX7_cloud 46 = .ok (.ireturn, 1) := by decide +kernel
theorem dX7_cloud_47 : decode cX7_cloud 47 = .ok (.aload_n 0, 1) := by decide +kernel
theorem dX7_cloud_48 : decode cX7_cloud 48 = .ok (.getfield 28, 3) := by decide +kernel
theorem dX7_cloud_51 : decode cX7_cloud 51 = .ok (.getfield 94, 3) := by decide +kernel
theorem dX7_cloud_54 : decode cX7_cloud 54 = .ok (.bipush 6, 2) := by decide +kernel
theorem dX7_cloud_56 : decode cX7_cloud 56 = .ok (.if_icmp .lt 6, 3) := by decide +kernel
theorem dX7_cloud_59 : decode cX7_cloud 59 = .ok (.bipush (-4), 2) := by decide +kernel
theorem dX7_cloud_61 : decode cX7_cloud 61 = .ok (.ireturn, 1) := by decide +kernel
theorem dX7_cloud_62 : decode cX7_cloud 62 = .ok (.aload_n 0, 1) := by decide +kernel
theorem dX7_cloud_63 : decode cX7_cloud 63 = .ok (.getfield 28, 3) := by decide +kernel
theorem dX7_cloud_66 : decode cX7_cloud 66 = .ok (.iload_n 1, 1) := by decide +kernel
theorem dX7_cloud_67 : decode cX7_cloud 67 = .ok (.iload_n 2, 1) := by decide +kernel
theorem dX7_cloud_68 : decode cX7_cloud 68 = .ok (.iload_n 3, 1) := by decide +kernel
theorem dX7_cloud_69 : decode cX7_cloud 69 = .ok (.invokevirtual 129, 3) := by decide +kernel
theorem dX7_cloud_72 : decode cX7_cloud 72 = .ok (.ireturn, 1) := by decide +kernel
set_option maxRecDepth 20000 in
theorem ggX7_ofCloud_X6_isCloud : GoodIn wsX7_ofCloud wsX6_isCloud := goodIn_r _ [11, 12, 102, 103, 104, 105] (by decide +kernel) (by decide +kernel)
set_option maxRecDepth 20000 in
theorem gX7_ofCloud_X6_isCloud : GoodIn wsX7_ofCloud (wsV RX7 132 RX6 yX6_isCloud wsX6_isCloud) := goodIn_app (goodIn_of _ (by decide +kernel)) ggX7_ofCloud_X6_isCloud
set_option maxRecDepth 20000 in
theorem ggX7_ofCloud_X7_isHour : GoodIn wsX7_ofCloud wsX7_isHour := goodIn_r _ [16, 17, 18, 15, 19] (by decide +kernel) (by decide +kernel)
set_option maxRecDepth 20000 in
theorem gX7_ofCloud_X7_isHour : GoodIn wsX7_ofCloud (va_wsS RX7 135 yX7_isHour wsX7_isHour) := goodIn_app (goodIn_of _ (by decide +kernel)) ggX7_ofCloud_X7_isHour
set_option maxRecDepth 20000 in
theorem ggX7_ofCloud_X7_isWithin : GoodIn wsX7_ofCloud wsX7_isWithin := goodIn_r _ [19] (by decide +kernel) (by decide +kernel)
set_option maxRecDepth 20000 in
theorem gX7_ofCloud_X7_isWithin : GoodIn wsX7_ofCloud (va_wsS RX7 125 yX7_isWithin wsX7_isWithin) := goodIn_app (goodIn_of _ (by decide +kernel)) ggX7_ofCloud_X7_isWithin
set_option maxRecDepth 20000 in
theorem ggX7_ofCloud_X6_placeOf : GoodIn wsX7_ofCloud wsX6_placeOf := goodIn_r _ [23, 24, 102, 103, 104, 105] (by decide +kernel) (by decide +kernel)
set_option maxRecDepth 20000 in
theorem gX7_ofCloud_X6_placeOf : GoodIn wsX7_ofCloud (wsV RX7 138 RX6 yX6_placeOf wsX6_placeOf) := goodIn_app (goodIn_of _ (by decide +kernel)) ggX7_ofCloud_X6_placeOf
set_option maxRecDepth 20000 in
theorem ggX7_ofCloud_X1_runUpTo : GoodIn wsX7_ofCloud wsX1_runUpTo := goodIn_r _ [29, 30, 31, 32, 33, 34, 35, 36, 28, 37, 38, 39, 40, 41, 42, 43, 44, 45, 46, 47, 48, 49, 50, 51, 52, 53, 54, 55, 56, 57, 58, 59, 60, 61, 21, 22, 10, 23, 24, 62, 63, 64, 65, 66, 67, 68, 69, 70, 71, 72, 73, 74, 75, 76, 77, 78, 79, 80, 81, 82, 83, 84, 85, 106, 107, 108, 109, 110, 111, 112, 113, 95, 96, 97, 98, 99, 100, 101, 114, 115, 116, 117, 118, 102, 103, 104, 105] (by decide +kernel) (by decide +kernel)
set_option maxRecDepth 20000 in
theorem gX7_ofCloud_X1_runUpTo : GoodIn wsX7_ofCloud (wsV RX7 144 RX1 yX1_runUpTo wsX1_runUpTo) := goodIn_app (goodIn_of _ (by decide +kernel)) ggX7_ofCloud_X1_runUpTo
theorem dX7_ofCloud_0 : decode cX7_ofCloud 0 = .ok (.aload_n 0, 1) := by decide +kernel
theorem dX7_ofCloud_1 : decode cX7_ofCloud 1 = .ok (.getfield 28, 3) := by decide +kernel
theorem dX7_ofCloud_4 : decode cX7_ofCloud 4 = .ok (.iload_n 1, 1) := by decide +kernel
theorem dX7_ofCloud_5 : decode cX7_ofCloud 5 = .ok (.invokevirtual 132, 3) := by decide +kernel
theorem dX7_ofCloud_8 : decode cX7_ofCloud 8 = .ok (.ifCond .ne 5, 3) := by decide +kernel
theorem dX7_ofCloud_11 : decode cX7_ofCloud 11 = .ok (.iconst (-1), 1) := by decide +kernel
theorem dX7_ofCloud_12 : decode cX7_ofCloud 12 = .ok (.ireturn, 1) := by decide +kernel
theorem dX7_ofCloud_13 : decode cX7_ofCloud 13 = .ok (.iload_n 2, 1) := by decide +kernel
theorem dX7_ofCloud_14 : decode cX7_ofCloud 14 = .ok (.invokestatic 135, 3) := by decide +kernel
theorem dX7_ofCloud_17 : decode cX7_ofCloud 17 = .ok (.ifCond .eq 12, 3) := by decide +kernel
theorem dX7_ofCloud_20 : decode cX7_ofCloud 20 = .ok (.iload_n 3, 1) := by decide +kernel
theorem dX7_ofCloud_21 : decode cX7_ofCloud 21 = .ok (.iconst 0, 1) := by decide +kernel
theorem dX7_ofCloud_22 : decode cX7_ofCloud 22 = .ok (.iconst 2, 1) := by decide +kernel
theorem dX7_ofCloud_23 : decode cX7_ofCloud 23 = .ok (.invokestatic 125, 3) := by decide +kernel
theorem dX7_ofCloud_26 : decode cX7_ofCloud 26 = .ok (.ifCond .ne 6, 3) := by decide +kernel
theorem dX7_ofCloud_29 : decode cX7_ofCloud 29 = .ok (.bipush (-2), 2) := by decide +kernel
theorem dX7_ofCloud_31 : decode cX7_ofCloud 31 = .ok (.ireturn, 1) := by decide +kernel
theorem dX7_ofCloud_32 : decode cX7_ofCloud 32 = .ok (.iload_n 3, 1) := by decide +kernel
theorem dX7_ofCloud_33 : decode cX7_ofCloud 33 = .ok (.ifCond .ne 23, 3) := by decide +kernel
theorem dX7_ofCloud_36 : decode cX7_ofCloud 36 = .ok (.aload_n 0, 1) := by decide +kernel
theorem dX7_ofCloud_37 : decode cX7_ofCloud 37 = .ok (.getfield 28, 3) := by decide +kernel
theorem dX7_ofCloud_40 : decode cX7_ofCloud 40 = .ok (.iload_n 1, 1) := by decide +kernel
theorem dX7_ofCloud_41 : decode cX7_ofCloud 41 = .ok (.aload_n 0, 1) := by decide +kernel
theorem dX7_ofCloud_42 : decode cX7_ofCloud 42 = .ok (.getfield 21, 3) := by decide +kernel
theorem dX7_ofCloud_45 : decode cX7_ofCloud 45 = .ok (.getfield 116, 3) := by decide +kernel
theorem dX7_ofCloud_48 : decode cX7_ofCloud 48 = .ok (.iload_n 2, 1) := by decide +kernel
theorem dX7_ofCloud_49 : decode cX7_ofCloud 49 = .ok (.invokevirtual 138, 3) := by decide +kernel
theorem dX7_ofCloud_52 : decode cX7_ofCloud 52 = .ok (.bipush 100, 2) := by decide +kernel
theorem dX7_ofCloud_54 : decode cX7_ofCloud 54 = .ok (.iadd, 1) := by decide +kernel
theorem dX7_ofCloud_55 : decode cX7_ofCloud 55 = .ok (.ireturn, 1) := by decide +kernel
theorem dX7_ofCloud_56 : decode cX7_ofCloud 56 = .ok (.iload_n 3, 1) := by decide +kernel
theorem dX7_ofCloud_57 : decode cX7_ofCloud 57 = .ok (.iconst 2, 1) := by decide +kernel
theorem dX7_ofCloud_58 : decode cX7_ofCloud 58 = .ok (.if_icmp .ne 13, 3) := by decide +kernel
theorem dX7_ofCloud_61 : decode cX7_ofCloud 61 = .ok (.aload_n 0, 1) := by decide +kernel
theorem dX7_ofCloud_62 : decode cX7_ofCloud 62 = .ok (.getfield 28, 3) := by decide +kernel
theorem dX7_ofCloud_65 : decode cX7_ofCloud 65 = .ok (.getfield 141, 3) := by decide +kernel
theorem dX7_ofCloud_68 : decode cX7_ofCloud 68 = .ok (.iload_n 1, 1) := by decide +kernel
theorem dX7_ofCloud_69 : decode cX7_ofCloud 69 = .ok (.iaload, 1) := by decide +kernel
theorem dX7_ofCloud_70 : decode cX7_ofCloud 70 = .ok (.ireturn, 1) := by decide +kernel
theorem dX7_ofCloud_71 : decode cX7_ofCloud 71 = .ok (.aload_n 0, 1) := by decide +kernel
theorem dX7_ofCloud_72 : decode cX7_ofCloud 72 = .ok (.getfield 44, 3) := by decide +kernel
theorem dX7_ofCloud_75 : decode cX7_ofCloud 75 = .ok (.iload_n 2, 1) := by decide +kernel
theorem dX7_ofCloud_76 : decode cX7_ofCloud 76 = .ok (.invokevirtual 144, 3) := by decide +kernel
theorem dX7_ofCloud_79 : decode cX7_ofCloud 79 = .ok (.aload_n 0, 1) := by decide +kernel
theorem dX7_ofCloud_80 : decode cX7_ofCloud 80 = .ok (.getfield 44, 3) := by decide +kernel
theorem dX7_ofCloud_83 : decode cX7_ofCloud 83 = .ok (.getfield 148, 3) := by decide +kernel
theorem dX7_ofCloud_86 : decode cX7_ofCloud 86 = .ok (.iload_n 1, 1) := by decide +kernel
theorem dX7_ofCloud_87 : decode cX7_ofCloud 87 = .ok (.iaload, 1) := by decide +kernel
theorem dX7_ofCloud_88 : decode cX7_ofCloud 88 = .ok (.ireturn, 1) := by decide +kernel
set_option maxRecDepth 20000 in
theorem ggX7_shot_X3_isField : GoodIn wsX7_shot wsX3_isField := goodIn_r _ [8, 9, 46, 47, 48, 49, 50, 51, 52] (by decide +kernel) (by decide +kernel)
set_option maxRecDepth 20000 in
theorem gX7_shot_X3_isField : GoodIn wsX7_shot (wsV RX7 99 RX3 yX3_isField wsX3_isField) := goodIn_app (goodIn_of _ (by decide +kernel)) ggX7_shot_X3_isField
set_option maxRecDepth 20000 in
theorem ggX7_shot_X7_isKind : GoodIn wsX7_shot wsX7_isKind := goodIn_r _ [13, 14, 15, 12, 16] (by decide +kernel) (by decide +kernel)
set_option maxRecDepth 20000 in
theorem gX7_shot_X7_isKind : GoodIn wsX7_shot (va_wsS RX7 150 yX7_isKind wsX7_isKind) := goodIn_app (goodIn_of _ (by decide +kernel)) ggX7_shot_X7_isKind
set_option maxRecDepth 20000 in
theorem ggX7_shot_X7_isHour : GoodIn wsX7_shot wsX7_isHour := goodIn_r _ [19, 14, 15, 12, 16] (by decide +kernel) (by decide +kernel)
set_option maxRecDepth 20000 in
theorem gX7_shot_X7_isHour : GoodIn wsX7_shot (va_wsS RX7 135 yX7_isHour wsX7_isHour) := goodIn_app (goodIn_of _ (by decide +kernel)) ggX7_shot_X7_isHour
set_option maxRecDepth 20000 in
theorem ggX7_shot_X7_isPowder : GoodIn wsX7_shot wsX7_isPowder := goodIn_r _ [22, 14, 15, 12, 16] (by decide +kernel) (by decide +kernel)
set_option maxRecDepth 20000 in
theorem gX7_shot_X7_isPowder : GoodIn wsX7_shot (va_wsS RX7 153 yX7_isPowder wsX7_isPowder) := goodIn_app (goodIn_of _ (by decide +kernel)) ggX7_shot_X7_isPowder
set_option maxRecDepth 20000 in
theorem ggX7_shot_X5_write : GoodIn wsX7_shot wsX5_write := goodIn_r _ [27, 28, 29, 30, 31, 41, 42, 43, 44, 45] (by decide +kernel) (by decide +kernel)
set_option maxRecDepth 20000 in
theorem gX7_shot_X5_write : GoodIn wsX7_shot (wsV RX7 156 RX5 yX5_write wsX5_write) := goodIn_app (goodIn_of _ (by decide +kernel)) ggX7_shot_X5_write
theorem dX7_shot_0 : decode cX7_shot 0 = .ok (.aload_n 0, 1) := by decide +kernel
theorem dX7_shot_1 : decode cX7_shot 1 = .ok (.getfield 21, 3) := by decide +kernel
theorem dX7_shot_4 : decode cX7_shot 4 = .ok (.iload_n 2, 1) := by decide +kernel
theorem dX7_shot_5 : decode cX7_shot 5 = .ok (.invokevirtual 99, 3) := by decide +kernel
theorem dX7_shot_8 : decode cX7_shot 8 = .ok (.ifCond .ne 5, 3) := by decide +kernel
theorem dX7_shot_11 : decode cX7_shot 11 = .ok (.iconst (-1), 1) := by decide +kernel
theorem dX7_shot_12 : decode cX7_shot 12 = .ok (.ireturn, 1) := by decide +kernel
theorem dX7_shot_13 : decode cX7_shot 13 = .ok (.iload_n 1, 1) := by decide +kernel
theorem dX7_shot_14 : decode cX7_shot 14 = .ok (.invokestatic 150, 3) := by decide +kernel
theorem dX7_shot_17 : decode cX7_shot 17 = .ok (.ifCond .eq 18, 3) := by decide +kernel
theorem dX7_shot_20 : decode cX7_shot 20 = .ok (.iload_n 3, 1) := by decide +kernel
theorem dX7_shot_21 : decode cX7_shot 21 = .ok (.invokestatic 135, 3) := by decide +kernel
theorem dX7_shot_24 : decode cX7_shot 24 = .ok (.ifCond .eq 11, 3) := by decide +kernel
theorem dX7_shot_27 : decode cX7_shot 27 = .ok (.iload 4, 2) := by decide +kernel
theorem dX7_shot_29 : decode cX7_shot 29 = .ok (.invokestatic 153, 3) := by decide +kernel
theorem dX7_shot_32 : decode cX7_shot 32 = .ok (.ifCond .ne 6, 3) := by decide +kernel
theorem dX7_shot_35 : decode cX7_shot 35 = .ok (.bipush (-2), 2) := by decide +kernel
theorem dX7_shot_37 : decode cX7_shot 37 = .ok (.ireturn, 1) := by decide +kernel
theorem dX7_shot_38 : decode cX7_shot 38 = .ok (.aload_n 0, 1) := by decide +kernel
theorem dX7_shot_39 : decode cX7_shot 39 = .ok (.getfield 35, 3) := by decide +kernel
theorem dX7_shot_42 : decode cX7_shot 42 = .ok (.getfield 97, 3) := by decide +kernel
theorem dX7_shot_45 : decode cX7_shot 45 = .ok (.bipush 8, 2) := by decide +kernel
theorem dX7_shot_47 : decode cX7_shot 47 = .ok (.if_icmp .lt 6, 3) := by decide +kernel
theorem dX7_shot_50 : decode cX7_shot 50 = .ok (.bipush (-4), 2) := by decide +kernel
theorem dX7_shot_52 : decode cX7_shot 52 = .ok (.ireturn, 1) := by decide +kernel
theorem dX7_shot_53 : decode cX7_shot 53 = .ok (.aload_n 0, 1) := by decide +kernel
theorem dX7_shot_54 : decode cX7_shot 54 = .ok (.getfield 35, 3) := by decide +kernel
theorem dX7_shot_57 : decode cX7_shot 57 = .ok (.getfield 97, 3) := by decide +kernel
theorem dX7_shot_60 : decode cX7_shot 60 = .ok (.istore 5, 2) := by decide +kernel
theorem dX7_shot_62 : decode cX7_shot 62 = .ok (.aload_n 0, 1) := by decide +kernel
theorem dX7_shot_63 : decode cX7_shot 63 = .ok (.getfield 35, 3) := by decide +kernel
theorem dX7_shot_66 : decode cX7_shot 66 = .ok (.iload 5, 2) := by decide +kernel
theorem dX7_shot_68 : decode cX7_shot 68 = .ok (.iload_n 1, 1) := by decide +kernel
theorem dX7_shot_69 : decode cX7_shot 69 = .ok (.iload_n 2, 1) := by decide +kernel
theorem dX7_shot_70 : decode cX7_shot 70 = .ok (.iload_n 3, 1) := by decide +kernel
theorem dX7_shot_71 : decode cX7_shot 71 = .ok (.iload 4, 2) := by decide +kernel
theorem dX7_shot_73 : decode cX7_shot 73 = .ok (.invokevirtual 156, 3) := by decide +kernel
theorem dX7_shot_76 : decode cX7_shot 76 = .ok (.aload_n 0, 1) := by decide +kernel
theorem dX7_shot_77 : decode cX7_shot 77 = .ok (.getfield 35, 3) := by decide +kernel
theorem dX7_shot_80 : decode cX7_shot 80 = .ok (.iload 5, 2) := by decide +kernel
theorem dX7_shot_82 : decode cX7_shot 82 = .ok (.iconst 1, 1) := by decide +kernel
theorem dX7_shot_83 : decode cX7_shot 83 = .ok (.iadd, 1) := by decide +kernel
theorem dX7_shot_84 : decode cX7_shot 84 = .ok (.putfield 97, 3) := by decide +kernel
theorem dX7_shot_87 : decode cX7_shot 87 = .ok (.iload 5, 2) := by decide +kernel
theorem dX7_shot_89 : decode cX7_shot 89 = .ok (.ireturn, 1) := by decide +kernel
set_option maxRecDepth 20000 in
theorem ggX7_fell_X3_isField : GoodIn wsX7_fell wsX3_isField := goodIn_r _ [9, 10, 96, 97, 98, 99, 100, 101, 102] (by decide +kernel) (by decide +kernel)
set_option maxRecDepth 20000 in
theorem gX7_fell_X3_isField : GoodIn wsX7_fell (wsV RX7 99 RX3 yX3_isField wsX3_isField) := goodIn_app (goodIn_of _ (by decide +kernel)) ggX7_fell_X3_isField
set_option maxRecDepth 20000 in
theorem ggX7_fell_X7_isHour : GoodIn wsX7_fell wsX7_isHour := goodIn_r _ [14, 15, 16, 13, 17] (by decide +kernel) (by decide +kernel)
set_option maxRecDepth 20000 in
theorem gX7_fell_X7_isHour : GoodIn wsX7_fell (va_wsS RX7 135 yX7_isHour wsX7_isHour) := goodIn_app (goodIn_of _ (by decide +kernel)) ggX7_fell_X7_isHour
set_option maxRecDepth 20000 in
theorem ggX7_fell_X7_isWithin : GoodIn wsX7_fell wsX7_isWithin := goodIn_r _ [17] (by decide +kernel) (by decide +kernel)
set_option maxRecDepth 20000 in
theorem gX7_fell_X7_isWithin : GoodIn wsX7_fell (va_wsS RX7 125 yX7_isWithin wsX7_isWithin) := goodIn_app (goodIn_of _ (by decide +kernel)) ggX7_fell_X7_isWithin
set_option maxRecDepth 20000 in
theorem ggX7_fell_X1_runUpTo : GoodIn wsX7_fell wsX1_runUpTo := goodIn_r _ [22, 23, 24, 25, 26, 27, 28, 29, 21, 30, 31, 32, 33, 34, 35, 36, 37, 38, 39, 40, 41, 42, 43, 44, 45, 46, 47, 48, 49, 50, 51, 52, 53, 54, 55, 56, 57, 58, 59, 60, 6, 7, 8, 9, 10, 61, 62, 63, 64, 65, 66, 67, 68, 69, 70, 71, 72, 73, 74, 75, 76, 77, 78, 88, 89, 90, 91, 92, 93, 94, 95, 96, 97, 98, 99, 100, 101, 102, 103, 104, 105, 106, 107, 108, 109, 110, 111] (by decide +kernel) (by decide +kernel)
set_option maxRecDepth 20000 in
theorem gX7_fell_X1_runUpTo : GoodIn wsX7_fell (wsV RX7 144 RX1 yX1_runUpTo wsX1_runUpTo) := goodIn_app (goodIn_of _ (by decide +kernel)) ggX7_fell_X1_runUpTo
theorem dX7_fell_0 : decode cX7_fell 0 = .ok (.aload_n 0, 1) := by decide +kernel
theorem dX7_fell_1 : decode cX7_fell 1 = .ok (.getfield 21, 3) := by decide +kernel
theorem dX7_fell_4 : decode cX7_fell 4 = .ok (.iload_n 1, 1) := by decide +kernel
theorem dX7_fell_5 : decode cX7_fell 5 = .ok (.invokevirtual 99, 3) := by decide +kernel
theorem dX7_fell_8 : decode cX7_fell 8 = .ok (.ifCond .ne 5, 3) := by decide +kernel
theorem dX7_fell_11 : decode cX7_fell 11 = .ok (.iconst (-1), 1) := by decide +kernel
theorem dX7_fell_12 : decode cX7_fell 12 = .ok (.ireturn, 1) := by decide +kernel
theorem dX7_fell_13 : decode cX7_fell 13 = .ok (.iload_n 2, 1) := by decide +kernel
theorem dX7_fell_14 : decode cX7_fell 14 = .ok (.invokestatic 135, 3) := by decide +kernel
theorem dX7_fell_17 : decode cX7_fell 17 = .ok (.ifCond .eq 12, 3) := by decide +kernel
theorem dX7_fell_20 : decode cX7_fell 20 = .ok (.iload_n 3, 1) := by decide +kernel
theorem dX7_fell_21 : decode cX7_fell 21 = .ok (.iconst 0, 1) := by decide +kernel
theorem dX7_fell_22 : decode cX7_fell 22 = .ok (.iconst 1, 1) := by decide +kernel
theorem dX7_fell_23 : decode cX7_fell 23 = .ok (.invokestatic 125, 3) := by decide +kernel
theorem dX7_fell_26 : decode cX7_fell 26 = .ok (.ifCond .ne 6, 3) := by decide +kernel
theorem dX7_fell_29 : decode cX7_fell 29 = .ok (.bipush (-2), 2) := by decide +kernel
theorem dX7_fell_31 : decode cX7_fell 31 = .ok (.ireturn, 1) := by decide +kernel
theorem dX7_fell_32 : decode cX7_fell 32 = .ok (.aload_n 0, 1) := by decide +kernel
theorem dX7_fell_33 : decode cX7_fell 33 = .ok (.getfield 44, 3) := by decide +kernel
theorem dX7_fell_36 : decode cX7_fell 36 = .ok (.iload_n 2, 1) := by decide +kernel
theorem dX7_fell_37 : decode cX7_fell 37 = .ok (.iconst 1, 1) := by decide +kernel
theorem dX7_fell_38 : decode cX7_fell 38 = .ok (.iadd, 1) := by decide +kernel
theorem dX7_fell_39 : decode cX7_fell 39 = .ok (.invokevirtual 144, 3) := by decide +kernel
theorem dX7_fell_42 : decode cX7_fell 42 = .ok (.iload_n 3, 1) := by decide +kernel
theorem dX7_fell_43 : decode cX7_fell 43 = .ok (.ifCond .ne 15, 3) := by decide +kernel
theorem dX7_fell_46 : decode cX7_fell 46 = .ok (.aload_n 0, 1) := by decide +kernel
theorem dX7_fell_47 : decode cX7_fell 47 = .ok (.getfield 44, 3) := by decide +kernel
theorem dX7_fell_50 : decode cX7_fell 50 = .ok (.getfield 178, 3) := by decide +kernel
theorem dX7_fell_53 : decode cX7_fell 53 = .ok (.iload_n 1, 1) := by decide +kernel
theorem dX7_fell_54 : decode cX7_fell 54 = .ok (.iaload, 1) := by decide +kernel
theorem dX7_fell_55 : decode cX7_fell 55 = .ok (.goto 12, 3) := by decide +kernel
theorem dX7_fell_58 : decode cX7_fell 58 = .ok (.aload_n 0, 1) := by decide +kernel
theorem dX7_fell_59 : decode cX7_fell 59 = .ok (.getfield 44, 3) := by decide +kernel
theorem dX7_fell_62 : decode cX7_fell 62 = .ok (.getfield 181, 3) := by decide +kernel
theorem dX7_fell_65 : decode cX7_fell 65 = .ok (.iload_n 1, 1) := by decide +kernel
theorem dX7_fell_66 : decode cX7_fell 66 = .ok (.iaload, 1) := by decide +kernel
theorem dX7_fell_67 : decode cX7_fell 67 = .ok (.ireturn, 1) := by decide +kernel
set_option maxRecDepth 20000 in
theorem ggX7_by_X5_isShot : GoodIn wsX7_by wsX5_isShot := goodIn_r _ [9, 10, 97, 98, 99, 100, 101] (by decide +kernel) (by decide +kernel)
set_option maxRecDepth 20000 in
theorem gX7_by_X5_isShot : GoodIn wsX7_by (wsV RX7 160 RX5 yX5_isShot wsX5_isShot) := goodIn_app (goodIn_of _ (by decide +kernel)) ggX7_by_X5_isShot
set_option maxRecDepth 20000 in
theorem ggX7_by_X7_isWithin : GoodIn wsX7_by wsX7_isWithin := goodIn_r _ [14] (by decide +kernel) (by decide +kernel)
set_option maxRecDepth 20000 in
theorem gX7_by_X7_isWithin : GoodIn wsX7_by (va_wsS RX7 125 yX7_isWithin wsX7_isWithin) := goodIn_app (goodIn_of _ (by decide +kernel)) ggX7_by_X7_isWithin
set_option maxRecDepth 20000 in
theorem ggX7_by_X1_runUpTo : GoodIn wsX7_by wsX1_runUpTo := goodIn_r _ [19, 20, 21, 22, 23, 24, 25, 26, 18, 27, 28, 29, 30, 31, 32, 33, 34, 35, 36, 37, 38, 39, 40, 41, 42, 43, 44, 45, 46, 47, 48, 49, 50, 51, 52, 53, 54, 55, 56, 57, 58, 59, 60, 61, 62, 63, 64, 65, 66, 67, 68, 69, 70, 71, 72, 73, 74, 75, 76, 8, 77, 78, 79, 89, 90, 91, 92, 93, 94, 95, 96, 102, 103, 104, 105, 106, 107, 108, 97, 98, 99, 100, 101, 109, 110, 111, 112] (by decide +kernel) (by decide +kernel)
set_option maxRecDepth 20000 in
theorem gX7_by_X1_runUpTo : GoodIn wsX7_by (wsV RX7 144 RX1 yX1_runUpTo wsX1_runUpTo) := goodIn_app (goodIn_of _ (by decide +kernel)) ggX7_by_X1_runUpTo
theorem dX7_by_0 : decode cX7_by 0 = .ok (.aload_n 0, 1) := by decide +kernel
theorem dX7_by_1 : decode cX7_by 1 = .ok (.getfield 35, 3) := by decide +kernel
theorem dX7_by_4 : decode cX7_by 4 = .ok (.iload_n 1, 1) := by decide +kernel
theorem dX7_by_5 : decode cX7_by 5 = .ok (.invokevirtual 160, 3) := by decide +kernel
theorem dX7_by_8 : decode cX7_by 8 = .ok (.ifCond .ne 5, 3) := by decide +kernel
theorem dX7_by_11 : decode cX7_by 11 = .ok (.iconst (-1), 1) := by decide +kernel
theorem dX7_by_12 : decode cX7_by 12 = .ok (.ireturn, 1) := by decide +kernel
theorem dX7_by_13 : decode cX7_by 13 = .ok (.iload_n 2, 1) := by decide +kernel
theorem dX7_by_14 : decode cX7_by 14 = .ok (.iconst 0, 1) := by decide +kernel
theorem dX7_by_15 : decode cX7_by 15 = .ok (.iconst 1, 1) := by decide +kernel
theorem dX7_by_16 : decode cX7_by 16 = .ok (.invokestatic 125, 3) := by decide +kernel
theorem dX7_by_19 : decode cX7_by 19 = .ok (.ifCond .ne 6, 3) := by decide +kernel
theorem dX7_by_22 : decode cX7_by 22 = .ok (.bipush (-2), 2) := by decide +kernel
theorem dX7_by_24 : decode cX7_by 24 = .ok (.ireturn, 1) := by decide +kernel
theorem dX7_by_25 : decode cX7_by 25 = .ok (.aload_n 0, 1) := by decide +kernel
theorem dX7_by_26 : decode cX7_by 26 = .ok (.getfield 44, 3) := by decide +kernel
theorem dX7_by_29 : decode cX7_by 29 = .ok (.bipush 12, 2) := by decide +kernel
theorem dX7_by_31 : decode cX7_by 31 = .ok (.invokevirtual 144, 3) := by decide +kernel
theorem dX7_by_34 : decode cX7_by 34 = .ok (.iload_n 2, 1) := by decide +kernel
theorem dX7_by_35 : decode cX7_by 35 = .ok (.ifCond .ne 15, 3) := by decide +kernel
theorem dX7_by_38 : decode cX7_by 38 = .ok (.aload_n 0, 1) := by decide +kernel
theorem dX7_by_39 : decode cX7_by 39 = .ok (.getfield 44, 3) := by decide +kernel
theorem dX7_by_42 : decode cX7_by 42 = .ok (.getfield 184, 3) := by decide +kernel
theorem dX7_by_45 : decode cX7_by 45 = .ok (.iload_n 1, 1) := by decide +kernel
theorem dX7_by_46 : decode cX7_by 46 = .ok (.iaload, 1) := by decide +kernel
theorem dX7_by_47 : decode cX7_by 47 = .ok (.goto 12, 3) := by decide +kernel
theorem dX7_by_50 : decode cX7_by 50 = .ok (.aload_n 0, 1) := by decide +kernel
theorem dX7_by_51 : decode cX7_by 51 = .ok (.getfield 44, 3) := by decide +kernel
theorem dX7_by_54 : decode cX7_by 54 = .ok (.getfield 187, 3) := by decide +kernel
theorem dX7_by_57 : decode cX7_by 57 = .ok (.iload_n 1, 1) := by decide +kernel
theorem dX7_by_58 : decode cX7_by 58 = .ok (.iaload, 1) := by decide +kernel
theorem dX7_by_59 : decode cX7_by 59 = .ok (.ireturn, 1) := by decide +kernel
set_option maxRecDepth 20000 in
theorem ggX7_yields_X3_isField : GoodIn wsX7_yields wsX3_isField := goodIn_r _ [7, 8, 88, 89, 90, 91, 92, 93, 94] (by decide +kernel) (by decide +kernel)
set_option maxRecDepth 20000 in
theorem gX7_yields_X3_isField : GoodIn wsX7_yields (wsV RX7 99 RX3 yX3_isField wsX3_isField) := goodIn_app (goodIn_of _ (by decide +kernel)) ggX7_yields_X3_isField
set_option maxRecDepth 20000 in
theorem ggX7_yields_X1_runUpTo : GoodIn wsX7_yields wsX1_runUpTo := goodIn_r _ [13, 14, 15, 16, 17, 18, 19, 20, 12, 21, 22, 23, 24, 25, 26, 27, 28, 29, 30, 31, 32, 33, 34, 35, 36, 37, 38, 39, 40, 41, 42, 43, 44, 45, 46, 47, 48, 49, 50, 51, 4, 5, 6, 7, 8, 52, 53, 54, 55, 56, 57, 58, 59, 60, 61, 62, 63, 64, 65, 66, 67, 68, 69, 95, 96, 97, 98, 99, 100, 101, 102, 88, 89, 90, 91, 92, 93, 94, 103, 104, 105, 106, 107, 108, 109, 110, 111] (by decide +kernel) (by decide +kernel)
set_option maxRecDepth 20000 in
theorem gX7_yields_X1_runUpTo : GoodIn wsX7_yields (wsV RX7 144 RX1 yX1_runUpTo wsX1_runUpTo) := goodIn_app (goodIn_of _ (by decide +kernel)) ggX7_yields_X1_runUpTo
set_option maxRecDepth 20000 in
theorem ggX7_yields_X1_yieldOfField : GoodIn wsX7_yields wsX1_yieldOfField := goodIn_r _ [73, 14, 74, 35, 75, 22, 23, 24, 25, 36, 76, 77, 78, 95, 96, 97, 98, 99, 100, 101, 102, 88, 89, 90, 91, 92, 93, 94] (by decide +kernel) (by decide +kernel)
set_option maxRecDepth 20000 in
theorem gX7_yields_X1_yieldOfField : GoodIn wsX7_yields (wsV RX7 190 RX1 yX1_yieldOfField wsX1_yieldOfField) := goodIn_app (goodIn_of _ (by decide +kernel)) ggX7_yields_X1_yieldOfField
theorem dX7_yields_0 : decode cX7_yields 0 = .ok (.aload_n 0, 1) := by decide +kernel
theorem dX7_yields_1 : decode cX7_yields 1 = .ok (.getfield 21, 3) := by decide +kernel
theorem dX7_yields_4 : decode cX7_yields 4 = .ok (.iload_n 1, 1) := by decide +kernel
theorem dX7_yields_5 : decode cX7_yields 5 = .ok (.invokevirtual 99, 3) := by decide +kernel
theorem dX7_yields_8 : decode cX7_yields 8 = .ok (.ifCond .ne 5, 3) := by decide +kernel
theorem dX7_yields_11 : decode cX7_yields 11 = .ok (.iconst (-1), 1) := by decide +kernel
theorem dX7_yields_12 : decode cX7_yields 12 = .ok (.ireturn, 1) := by decide +kernel
theorem dX7_yields_13 : decode cX7_yields 13 = .ok (.aload_n 0, 1) := by decide +kernel
theorem dX7_yields_14 : decode cX7_yields 14 = .ok (.getfield 44, 3) := by decide +kernel
theorem dX7_yields_17 : decode cX7_yields 17 = .ok (.bipush 12, 2) := by decide +kernel
theorem dX7_yields_19 : decode cX7_yields 19 = .ok (.invokevirtual 144, 3) := by decide +kernel
theorem dX7_yields_22 : decode cX7_yields 22 = .ok (.aload_n 0, 1) := by decide +kernel
theorem dX7_yields_23 : decode cX7_yields 23 = .ok (.getfield 44, 3) := by decide +kernel
theorem dX7_yields_26 : decode cX7_yields 26 = .ok (.iload_n 1, 1) := by decide +kernel
theorem dX7_yields_27 : decode cX7_yields 27 = .ok (.invokevirtual 190, 3) := by decide +kernel
theorem dX7_yields_30 : decode cX7_yields 30 = .ok (.ireturn, 1) := by decide +kernel
set_option maxRecDepth 20000 in
theorem ggX7_harvest_X7_isClub : GoodIn wsX7_harvest wsX7_isClub := goodIn_r _ [5, 6, 7, 4, 8] (by decide +kernel) (by decide +kernel)
set_option maxRecDepth 20000 in
theorem gX7_harvest_X7_isClub : GoodIn wsX7_harvest (va_wsS RX7 193 yX7_isClub wsX7_isClub) := goodIn_app (goodIn_of _ (by decide +kernel)) ggX7_harvest_X7_isClub
set_option maxRecDepth 20000 in
theorem ggX7_harvest_X1_runUpTo : GoodIn wsX7_harvest wsX1_runUpTo := goodIn_r _ [13, 14, 15, 16, 17, 18, 19, 20, 12, 21, 22, 23, 24, 25, 26, 27, 28, 29, 30, 31, 32, 33, 34, 35, 36, 37, 38, 39, 40, 41, 42, 43, 44, 45, 46, 47, 48, 49, 50, 51, 52, 53, 54, 55, 56, 57, 58, 59, 60, 61, 62, 63, 64, 65, 66, 67, 68, 69, 70, 71, 72, 73, 74, 103, 104, 105, 106, 107, 108, 109, 110, 111, 112, 113, 114, 115, 116, 117, 118, 119, 120, 121, 122, 123, 124, 125, 126] (by decide +kernel) (by decide +kernel)
set_option maxRecDepth 20000 in
theorem gX7_harvest_X1_runUpTo : GoodIn wsX7_harvest (wsV RX7 144 RX1 yX1_runUpTo wsX1_runUpTo) := goodIn_app (goodIn_of _ (by decide +kernel)) ggX7_harvest_X1_runUpTo
set_option maxRecDepth 20000 in
theorem ggX7_harvest_X1_yieldOf : GoodIn wsX7_harvest wsX1_yieldOf := goodIn_r _ [78, 14, 79, 80, 81, 82, 54, 83, 84, 85, 86, 87, 12, 88, 89, 35, 90, 22, 23, 24, 25, 36, 91, 92, 93, 103, 104, 105, 106, 107, 108, 109, 110, 111, 112, 113, 114, 115, 116, 117] (by decide +kernel) (by decide +kernel)
set_option maxRecDepth 20000 in
theorem gX7_harvest_X1_yieldOf : GoodIn wsX7_harvest (wsV RX7 196 RX1 yX1_yieldOf wsX1_yieldOf) := goodIn_app (goodIn_of _ (by decide +kernel)) ggX7_harvest_X1_yieldOf
theorem dX7_harvest_0 : decode cX7_harvest 0 = .ok (.iload_n 1, 1) := by decide +kernel
theorem dX7_harvest_1 : decode cX7_harvest 1 = .ok (.iconst (-1), 1) := by decide +kernel
theorem dX7_harvest_2 : decode cX7_harvest 2 = .ok (.if_icmp .eq 12, 3) := by decide +kernel
theorem dX7_harvest_5 : decode cX7_harvest 5 = .ok (.iload_n 1, 1) := by decide +kernel
theorem dX7_harvest_6 : decode cX7_harvest 6 = .ok (.invokestatic 193, 3) := by decide +kernel
theorem dX7_harvest_9 : decode cX7_harvest 9 = .ok (.ifCond .ne 5, 3) := by decide +kernel
theorem dX7_harvest_12 : decode cX7_harvest 12 = .ok (.iconst (-1), 1) := by decide +kernel
theorem dX7_harvest_13 : decode cX7_harvest 13 = .ok (.ireturn, 1) := by decide +kernel
theorem dX7_harvest_14 : decode cX7_harvest 14 = .ok (.aload_n 0, 1) := by decide +kernel
theorem dX7_harvest_15 : decode cX7_harvest 15 = .ok (.getfield 44, 3) := by decide +kernel
theorem dX7_harvest_18 : decode cX7_harvest 18 = .ok (.bipush 12, 2) := by decide +kernel
theorem dX7_harvest_20 : decode cX7_harvest 20 = .ok (.invokevirtual 144, 3) := by decide +kernel
theorem dX7_harvest_23 : decode cX7_harvest 23 = .ok (.aload_n 0, 1) := by decide +kernel
theorem dX7_harvest_24 : decode cX7_harvest 24 = .ok (.getfield 44, 3) := by decide +kernel
theorem dX7_harvest_27 : decode cX7_harvest 27 = .ok (.iload_n 1, 1) := by decide +kernel
theorem dX7_harvest_28 : decode cX7_harvest 28 = .ok (.invokevirtual 196, 3) := by decide +kernel
theorem dX7_harvest_31 : decode cX7_harvest 31 = .ok (.ireturn, 1) := by decide +kernel
set_option maxRecDepth 20000 in
theorem ggX7_brought_X5_isShot : GoodIn wsX7_brought wsX5_isShot := goodIn_r _ [8, 9, 125, 126, 127, 128, 129] (by decide +kernel) (by decide +kernel)
set_option maxRecDepth 20000 in
theorem gX7_brought_X5_isShot : GoodIn wsX7_brought (wsV RX7 160 RX5 yX5_isShot wsX5_isShot) := goodIn_app (goodIn_of _ (by decide +kernel)) ggX7_brought_X5_isShot
set_option maxRecDepth 20000 in
theorem ggX7_brought_X7_isClub : GoodIn wsX7_brought wsX7_isClub := goodIn_r _ [13, 14, 15, 12, 16] (by decide +kernel) (by decide +kernel)
set_option maxRecDepth 20000 in
theorem gX7_brought_X7_isClub : GoodIn wsX7_brought (va_wsS RX7 193 yX7_isClub wsX7_isClub) := goodIn_app (goodIn_of _ (by decide +kernel)) ggX7_brought_X7_isClub
set_option maxRecDepth 20000 in
theorem ggX7_brought_X0_gainBy : GoodIn wsX7_brought wsX0_gainBy := goodIn_r _ [21, 22, 23, 24, 25, 26, 27, 28, 29, 30, 31, 32, 33, 34, 35, 36, 37, 38, 39, 40, 41, 42, 43, 44, 45, 46, 47, 48, 49, 50, 51, 52, 53, 54, 55, 56, 57, 58, 59, 60, 61, 62, 63, 64, 65, 66, 67, 68, 69, 70, 71, 72, 73, 74, 75, 76, 77, 78, 79, 80, 81, 82, 83, 84, 7, 85, 86, 87, 88, 89, 90, 91, 92, 93, 94, 95, 96, 97, 98, 99, 100, 101, 102, 103, 104, 105, 106, 107, 108, 109, 20, 110, 111, 112, 113, 114, 115, 130, 131, 132, 133, 134, 135, 136, 137, 138, 139, 140, 141, 142, 143, 144, 145, 146, 147, 148, 149, 150, 151, 125, 126, 127, 128, 129, 152, 153, 154, 155] (by decide +kernel) (by decide +kernel)
set_option maxRecDepth 20000 in
theorem gX7_brought_X0_gainBy : GoodIn wsX7_brought (wsV RX7 201 RX0 yX0_gainBy wsX0_gainBy) := goodIn_app (goodIn_of _ (by decide +kernel)) ggX7_brought_X0_gainBy
theorem dX7_brought_0 : decode cX7_brought 0 = .ok (.aload_n 0, 1) := by decide +kernel
theorem dX7_brought_1 : decode cX7_brought 1 = .ok (.getfield 35, 3) := by decide +kernel
theorem dX7_brought_4 : decode cX7_brought 4 = .ok (.iload_n 1, 1) := by decide +kernel
theorem dX7_brought_5 : decode cX7_brought 5 = .ok (.invokevirtual 160, 3) := by decide +kernel
theorem dX7_brought_8 : decode cX7_brought 8 = .ok (.ifCond .eq 15, 3) := by decide +kernel
theorem dX7_brought_11 : decode cX7_brought 11 = .ok (.iload_n 2, 1) := by decide +kernel
theorem dX7_brought_12 : decode cX7_brought 12 = .ok (.iconst (-1), 1) := by decide +kernel
theorem dX7_brought_13 : decode cX7_brought 13 = .ok (.if_icmp .eq 14, 3) := by decide +kernel
theorem dX7_brought_16 : decode cX7_brought 16 = .ok (.iload_n 2, 1) := by decide +kernel
theorem dX7_brought_17 : decode cX7_brought 17 = .ok (.invokestatic 193, 3) := by decide +kernel
theorem dX7_brought_20 : decode cX7_brought 20 = .ok (.ifCond .ne 7, 3) := by decide +kernel
theorem dX7_brought_23 : decode cX7_brought 23 = .ok (.ldc2_w 199, 3) := by decide +kernel
theorem dX7_brought_26 : decode cX7_brought 26 = .ok (.lreturn, 1) := by decide +kernel
theorem dX7_brought_27 : decode cX7_brought 27 = .ok (.aload_n 0, 1) := by decide +kernel
theorem dX7_brought_28 : decode cX7_brought 28 = .ok (.getfield 53, 3) := by decide +kernel
theorem dX7_brought_31 : decode cX7_brought 31 = .ok (.iload_n 1, 1) := by decide +kernel
theorem dX7_brought_32 : decode cX7_brought 32 = .ok (.iload_n 2, 1) := by decide +kernel
theorem dX7_brought_33 : decode cX7_brought 33 = .ok (.invokevirtual 201, 3) := by decide +kernel
theorem dX7_brought_36 : decode cX7_brought 36 = .ok (.i2l, 1) := by decide +kernel
theorem dX7_brought_37 : decode cX7_brought 37 = .ok (.lreturn, 1) := by decide +kernel
set_option maxRecDepth 20000 in
theorem ggX7_due_X5_isShot : GoodIn wsX7_due wsX5_isShot := goodIn_r _ [11, 12, 125, 126, 127, 128, 129] (by decide +kernel) (by decide +kernel)
set_option maxRecDepth 20000 in
theorem gX7_due_X5_isShot : GoodIn wsX7_due (wsV RX7 160 RX5 yX5_isShot wsX5_isShot) := goodIn_app (goodIn_of _ (by decide +kernel)) ggX7_due_X5_isShot
set_option maxRecDepth 20000 in
theorem ggX7_due_X7_isClub : GoodIn wsX7_due wsX7_isClub := goodIn_r _ [16, 17, 18, 15, 19] (by decide +kernel) (by decide +kernel)
set_option maxRecDepth 20000 in
theorem gX7_due_X7_isClub : GoodIn wsX7_due (va_wsS RX7 193 yX7_isClub wsX7_isClub) := goodIn_app (goodIn_of _ (by decide +kernel)) ggX7_due_X7_isClub
set_option maxRecDepth 20000 in
theorem ggX7_due_X0_gainBy : GoodIn wsX7_due wsX0_gainBy := goodIn_r _ [24, 25, 26, 27, 28, 29, 30, 31, 32, 33, 34, 35, 36, 37, 38, 39, 40, 5, 41, 42, 43, 44, 45, 46, 47, 48, 49, 50, 51, 52, 53, 54, 55, 56, 57, 58, 59, 60, 61, 62, 63, 64, 65, 66, 67, 68, 69, 70, 71, 72, 73, 74, 75, 76, 77, 78, 79, 80, 81, 82, 83, 84, 85, 86, 10, 87, 88, 89, 90, 91, 92, 93, 94, 95, 96, 97, 98, 99, 100, 101, 102, 103, 104, 105, 106, 4, 6, 107, 108, 109, 23, 110, 111, 112, 113, 114, 115, 130, 131, 132, 133, 134, 135, 136, 137, 138, 139, 140, 141, 142, 143, 144, 145, 146, 147, 148, 149, 150, 151, 125, 126, 127, 128, 129, 152, 153, 154, 155] (by decide +kernel) (by decide +kernel)
set_option maxRecDepth 20000 in
theorem gX7_due_X0_gainBy : GoodIn wsX7_due (wsV RX7 201 RX0 yX0_gainBy wsX0_gainBy) := goodIn_app (goodIn_of _ (by decide +kernel)) ggX7_due_X0_gainBy
theorem dX7_due_0 : decode cX7_due 0 = .ok (.aload_n 0, 1) := by decide +kernel
theorem dX7_due_1 : decode cX7_due 1 = .ok (.getfield 35, 3) := by decide +kernel
theorem dX7_due_4 : decode cX7_due 4 = .ok (.iload_n 1, 1) := by decide +kernel
theorem dX7_due_5 : decode cX7_due 5 = .ok (.invokevirtual 160, 3) := by decide +kernel
theorem dX7_due_8 : decode cX7_due 8 = .ok (.ifCond .eq 10, 3) := by decide +kernel
theorem dX7_due_11 : decode cX7_due 11 = .ok (.iload_n 2, 1) := by decide +kernel
theorem dX7_due_12 : decode cX7_due 12 = .ok (.invokestatic 193, 3) := by decide +kernel
theorem dX7_due_15 : decode cX7_due 15 = .ok (.ifCond .ne 5, 3) := by decide +kernel
theorem dX7_due_18 : decode cX7_due 18 = .ok (.iconst (-1), 1) := by decide +kernel
theorem dX7_due_19 : decode cX7_due 19 = .ok (.ireturn, 1) := by decide +kernel
theorem dX7_due_20 : decode cX7_due 20 = .ok (.iconst 0, 1) := by decide +kernel
theorem dX7_due_21 : decode cX7_due 21 = .ok (.aload_n 0, 1) := by decide +kernel
theorem dX7_due_22 : decode cX7_due 22 = .ok (.getfield 53, 3) := by decide +kernel
theorem dX7_due_25 : decode cX7_due 25 = .ok (.iload_n 1, 1) := by decide +kernel
theorem dX7_due_26 : decode cX7_due 26 = .ok (.iload_n 2, 1) := by decide +kernel
theorem dX7_due_27 : decode cX7_due 27 = .ok (.invokevirtual 201, 3) := by decide +kernel
theorem dX7_due_30 : decode cX7_due 30 = .ok (.ineg, 1) := by decide +kernel
theorem dX7_due_31 : decode cX7_due 31 = .ok (.invokestatic 205, 3) := by decide +kernel
theorem dX7_due_34 : decode cX7_due 34 = .ok (.ireturn, 1) := by decide +kernel
set_option maxRecDepth 20000 in
theorem ggX7_idle_X0_idleSet : GoodIn wsX7_idle wsX0_idleSet := goodIn_r _ [6, 7, 8, 9, 10, 11, 12, 13, 14, 15, 16, 17, 18, 19, 20, 21, 22, 23, 24, 25, 26, 27, 28, 29, 30, 31, 32, 33, 34, 35, 36, 37, 38, 39, 40, 41, 42, 43, 44, 45, 46, 47, 48, 49, 50, 51, 52, 53, 54, 55, 56, 57, 58, 59, 60, 61, 62, 63, 64, 65, 66, 67, 68, 69, 70, 71, 72, 73, 74, 75, 76, 77, 78, 79, 80, 81, 82, 83, 84, 5, 85, 86, 87, 88, 89, 90, 91, 111, 112, 113, 114, 115, 116, 117, 118, 119, 120, 121, 122, 123, 124, 125, 126, 127, 128, 129, 130, 131, 132, 133, 134, 135, 136, 137, 138, 139, 140, 141] (by decide +kernel) (by decide +kernel)
set_option maxRecDepth 20000 in
theorem gX7_idle_X0_idleSet : GoodIn wsX7_idle (wsV RX7 210 RX0 yX0_idleSet wsX0_idleSet) := goodIn_app (goodIn_of _ (by decide +kernel)) ggX7_idle_X0_idleSet
set_option maxRecDepth 20000 in
theorem ggX7_idle_X0_breachSet : GoodIn wsX7_idle wsX0_breachSet := goodIn_r _ [95, 14, 15, 8, 96, 97, 98, 99, 61, 100, 101, 111, 112, 113, 114, 115, 116, 117, 133, 134, 135, 136, 137, 118, 119, 120, 121, 122, 123, 124] (by decide +kernel) (by decide +kernel)
set_option maxRecDepth 20000 in
theorem gX7_idle_X0_breachSet : GoodIn wsX7_idle (wsV RX7 214 RX0 yX0_breachSet wsX0_breachSet) := goodIn_app (goodIn_of _ (by decide +kernel)) ggX7_idle_X0_breachSet
theorem dX7_idle_0 : decode cX7_idle 0 = .ok (.iload_n 1, 1) := by decide +kernel
theorem dX7_idle_1 : decode cX7_idle 1 = .ok (.lookupswitch 43 #[(0, 27), (1, 35)], 27) := by decide +kernel
theorem dX7_idle_28 : decode cX7_idle 28 = .ok (.aload_n 0, 1) := by decide +kernel
theorem dX7_idle_29 : decode cX7_idle 29 = .ok (.getfield 53, 3) := by decide +kernel
theorem dX7_idle_32 : decode cX7_idle 32 = .ok (.invokevirtual 210, 3) := by decide +kernel
theorem dX7_idle_35 : decode cX7_idle 35 = .ok (.ireturn, 1) := by decide +kernel
theorem dX7_idle_36 : decode cX7_idle 36 = .ok (.aload_n 0, 1) := by decide +kernel
theorem dX7_idle_37 : decode cX7_idle 37 = .ok (.getfield 53, 3) := by decide +kernel
theorem dX7_idle_40 : decode cX7_idle 40 = .ok (.invokevirtual 214, 3) := by decide +kernel
theorem dX7_idle_43 : decode cX7_idle 43 = .ok (.ireturn, 1) := by decide +kernel
theorem dX7_idle_44 : decode cX7_idle 44 = .ok (.bipush (-2), 2) := by decide +kernel
theorem dX7_idle_46 : decode cX7_idle 46 = .ok (.ireturn, 1) := by decide +kernel
set_option maxRecDepth 20000 in
theorem ggX7_sheet_X7_isSheet : GoodIn wsX7_sheet wsX7_isSheet := goodIn_r _ [6, 7, 8, 5, 9] (by decide +kernel) (by decide +kernel)
set_option maxRecDepth 20000 in
theorem gX7_sheet_X7_isSheet : GoodIn wsX7_sheet (va_wsS RX7 71 yX7_isSheet wsX7_isSheet) := goodIn_app (goodIn_of _ (by decide +kernel)) ggX7_sheet_X7_isSheet
set_option maxRecDepth 20000 in
theorem ggX7_sheet_X7_isSort : GoodIn wsX7_sheet wsX7_isSort := goodIn_r _ [12, 7, 8, 5, 9] (by decide +kernel) (by decide +kernel)
set_option maxRecDepth 20000 in
theorem gX7_sheet_X7_isSort : GoodIn wsX7_sheet (va_wsS RX7 75 yX7_isSort wsX7_isSort) := goodIn_app (goodIn_of _ (by decide +kernel)) ggX7_sheet_X7_isSort
set_option maxRecDepth 20000 in
theorem ggX7_sheet_X7_faulted : GoodIn wsX7_sheet wsX7_faulted := goodIn_r _ [16, 1, 25, 26, 27, 28, 29, 30, 31, 32, 33] (by decide +kernel) (by decide +kernel)
set_option maxRecDepth 20000 in
theorem gX7_sheet_X7_faulted : GoodIn wsX7_sheet (wsV RX7 82 RX7 yX7_faulted wsX7_faulted) := goodIn_app (goodIn_of _ (by decide +kernel)) ggX7_sheet_X7_faulted
set_option maxRecDepth 20000 in
theorem ggX7_sheet_X4_renew : GoodIn wsX7_sheet wsX4_renew := goodIn_r _ [21, 22, 23, 24, 34, 35, 36] (by decide +kernel) (by decide +kernel)
set_option maxRecDepth 20000 in
theorem gX7_sheet_X4_renew : GoodIn wsX7_sheet (wsV RX7 255 RX4 yX4_renew wsX4_renew) := goodIn_app (goodIn_of _ (by decide +kernel)) ggX7_sheet_X4_renew
theorem dX7_sheet_0 : decode cX7_sheet 0 = .ok (.aload_n 0, 1) := by decide +kernel
theorem dX7_sheet_1 : decode cX7_sheet 1 = .ok (.iconst 0, 1) := by decide +kernel
theorem dX7_sheet_2 : decode cX7_sheet 2 = .ok (.putfield 68, 3) := by decide +kernel
theorem dX7_sheet_5 : decode cX7_sheet 5 = .ok (.iload_n 1, 1) := by decide +kernel
theorem dX7_sheet_6 : decode cX7_sheet 6 = .ok (.invokestatic 71, 3) := by decide +kernel
theorem dX7_sheet_9 : decode cX7_sheet 9 = .ok (.ifCond .ne 5, 3) := by decide +kernel
theorem dX7_sheet_12 : decode cX7_sheet 12 = .ok (.iconst (-1), 1) := by decide +kernel
theorem dX7_sheet_13 : decode cX7_sheet 13 = .ok (.ireturn, 1) := by decide +kernel
theorem dX7_sheet_14 : decode cX7_sheet 14 = .ok (.iload_n 2, 1) := by decide +kernel
theorem dX7_sheet_15 : decode cX7_sheet 15 = .ok (.invokestatic 75, 3) := by decide +kernel
theorem dX7_sheet_18 : decode cX7_sheet 18 = .ok (.ifCond .eq 9, 3) := by decide +kernel
theorem dX7_sheet_21 : decode cX7_sheet 21 = .ok (.iload_n 3, 1) := by decide +kernel
theorem dX7_sheet_22 : decode cX7_sheet 22 = .ok (.bipush 40, 2) := by decide +kernel
theorem dX7_sheet_24 : decode cX7_sheet 24 = .ok (.if_icmp .le 6, 3) := by decide +kernel
theorem dX7_sheet_27 : decode cX7_sheet 27 = .ok (.bipush (-2), 2) := by decide +kernel
theorem dX7_sheet_29 : decode cX7_sheet 29 = .ok (.ireturn, 1) := by decide +kernel
theorem dX7_sheet_30 : decode cX7_sheet 30 = .ok (.iload_n 3, 1) := by decide +kernel
theorem dX7_sheet_31 : decode cX7_sheet 31 = .ok (.ifCond .ge 9, 3) := by decide +kernel
theorem dX7_sheet_34 : decode cX7_sheet 34 = .ok (.aload_n 0, 1) := by decide +kernel
theorem dX7_sheet_35 : decode cX7_sheet 35 = .ok (.iconst 4, 1) := by decide +kernel
theorem dX7_sheet_36 : decode cX7_sheet 36 = .ok (.invokevirtual 82, 3) := by decide +kernel
theorem dX7_sheet_39 : decode cX7_sheet 39 = .ok (.ireturn, 1) := by decide +kernel
theorem dX7_sheet_40 : decode cX7_sheet 40 = .ok (.aload_n 0, 1) := by decide +kernel
theorem dX7_sheet_41 : decode cX7_sheet 41 = .ok (.getfield 13, 3) := by decide +kernel
theorem dX7_sheet_44 : decode cX7_sheet 44 = .ok (.iload_n 1, 1) := by decide +kernel
theorem dX7_sheet_45 : decode cX7_sheet 45 = .ok (.aaload, 1) := by decide +kernel
theorem dX7_sheet_46 : decode cX7_sheet 46 = .ok (.iload_n 2, 1) := by decide +kernel
theorem dX7_sheet_47 : decode cX7_sheet 47 = .ok (.iload_n 3, 1) := by decide +kernel
theorem dX7_sheet_48 : decode cX7_sheet 48 = .ok (.invokevirtual 255, 3) := by decide +kernel
theorem dX7_sheet_51 : decode cX7_sheet 51 = .ok (.iconst 1, 1) := by decide +kernel
theorem dX7_sheet_52 : decode cX7_sheet 52 = .ok (.ireturn, 1) := by decide +kernel
set_option maxRecDepth 20000 in
theorem ggX7_put_X7_isSheet : GoodIn wsX7_put wsX7_isSheet := goodIn_r _ [6, 7, 8, 5, 9] (by decide +kernel) (by decide +kernel)
set_option maxRecDepth 20000 in
theorem gX7_put_X7_isSheet : GoodIn wsX7_put (va_wsS RX7 71 yX7_isSheet wsX7_isSheet) := goodIn_app (goodIn_of _ (by decide +kernel)) ggX7_put_X7_isSheet
set_option maxRecDepth 20000 in
theorem ggX7_put_X4_hasRow : GoodIn wsX7_put wsX4_hasRow := goodIn_r _ [14, 15, 39, 40, 41] (by decide +kernel) (by decide +kernel)
set_option maxRecDepth 20000 in
theorem gX7_put_X4_hasRow : GoodIn wsX7_put (wsV RX7 258 RX4 yX4_hasRow wsX4_hasRow) := goodIn_app (goodIn_of _ (by decide +kernel)) ggX7_put_X4_hasRow
set_option maxRecDepth 20000 in
theorem ggX7_put_X7_faulted : GoodIn wsX7_put wsX7_faulted := goodIn_r _ [19, 1, 30, 31, 32, 33, 34, 35, 36, 37, 38] (by decide +kernel) (by decide +kernel)
set_option maxRecDepth 20000 in
theorem gX7_put_X7_faulted : GoodIn wsX7_put (wsV RX7 82 RX7 yX7_faulted wsX7_faulted) := goodIn_app (goodIn_of _ (by decide +kernel)) ggX7_put_X7_faulted
set_option maxRecDepth 20000 in
theorem ggX7_put_X4_holds : GoodIn wsX7_put wsX4_holds := goodIn_r _ [23, 15, 39, 40, 41] (by decide +kernel) (by decide +kernel)
set_option maxRecDepth 20000 in
theorem gX7_put_X4_holds : GoodIn wsX7_put (wsV RX7 265 RX4 yX4_holds wsX4_holds) := goodIn_app (goodIn_of _ (by decide +kernel)) ggX7_put_X4_holds
set_option maxRecDepth 20000 in
theorem ggX7_put_X4_write : GoodIn wsX7_put wsX4_write := goodIn_r _ [27, 28, 29, 39, 40, 41] (by decide +kernel) (by decide +kernel)
set_option maxRecDepth 20000 in
theorem gX7_put_X4_write : GoodIn wsX7_put (wsV RX7 268 RX4 yX4_write wsX4_write) := goodIn_app (goodIn_of _ (by decide +kernel)) ggX7_put_X4_write
theorem dX7_put_0 : decode cX7_put 0 = .ok (.aload_n 0, 1) := by decide +kernel
theorem dX7_put_1 : decode cX7_put 1 = .ok (.iconst 0, 1) := by decide +kernel
theorem dX7_put_2 : decode cX7_put 2 = .ok (.putfield 68, 3) := by decide +kernel
theorem dX7_put_5 : decode cX7_put 5 = .ok (.iload_n 1, 1) := by decide +kernel
theorem dX7_put_6 : decode cX7_put 6 = .ok (.invokestatic 71, 3) := by decide +kernel
theorem dX7_put_9 : decode cX7_put 9 = .ok (.ifCond .ne 5, 3) := by decide +kernel
theorem dX7_put_12 : decode cX7_put 12 = .ok (.iconst (-1), 1) := by decide +kernel
theorem dX7_put_13 : decode cX7_put 13 = .ok (.ireturn, 1) := by decide +kernel
theorem dX7_put_14 : decode cX7_put 14 = .ok (.aload_n 0, 1) := by decide +kernel
theorem dX7_put_15 : decode cX7_put 15 = .ok (.getfield 13, 3) := by decide +kernel
theorem dX7_put_18 : decode cX7_put 18 = .ok (.iload_n 1, 1) := by decide +kernel
theorem dX7_put_19 : decode cX7_put 19 = .ok (.aaload, 1) := by decide +kernel
theorem dX7_put_20 : decode cX7_put 20 = .ok (.astore 4, 2) := by decide +kernel
theorem dX7_put_22 : decode cX7_put 22 = .ok (.aload 4, 2) := by decide +kernel
theorem dX7_put_24 : decode cX7_put 24 = .ok (.invokevirtual 258, 3) := by decide +kernel
theorem dX7_put_27 : decode cX7_put 27 = .ok (.ifCond .ne 9, 3) := by decide +kernel
theorem dX7_put_30 : decode cX7_put 30 = .ok (.aload_n 0, 1) := by decide +kernel
theorem dX7_put_31 : decode cX7_put 31 = .ok (.iconst 1, 1) := by decide +kernel
theorem dX7_put_32 : decode cX7_put 32 = .ok (.invokevirtual 82, 3) := by decide +kernel
theorem dX7_put_35 : decode cX7_put 35 = .ok (.ireturn, 1) := by decide +kernel
theorem dX7_put_36 : decode cX7_put 36 = .ok (.aload 4, 2) := by decide +kernel
theorem dX7_put_38 : decode cX7_put 38 = .ok (.iload_n 2, 1) := by decide +kernel
theorem dX7_put_39 : decode cX7_put 39 = .ok (.iconst 1, 1) := by decide +kernel
theorem dX7_put_40 : decode cX7_put 40 = .ok (.invokevirtual 265, 3) := by decide +kernel
theorem dX7_put_43 : decode cX7_put 43 = .ok (.ifCond .ne 9, 3) := by decide +kernel
theorem dX7_put_46 : decode cX7_put 46 = .ok (.aload_n 0, 1) := by decide +kernel
theorem dX7_put_47 : decode cX7_put 47 = .ok (.iconst 3, 1) := by decide +kernel
theorem dX7_put_48 : decode cX7_put 48 = .ok (.invokevirtual 82, 3) := by decide +kernel
theorem dX7_put_51 : decode cX7_put 51 = .ok (.ireturn, 1) := by decide +kernel
theorem dX7_put_52 : decode cX7_put 52 = .ok (.aload 4, 2) := by decide +kernel
theorem dX7_put_54 : decode cX7_put 54 = .ok (.iload_n 2, 1) := by decide +kernel
theorem dX7_put_55 : decode cX7_put 55 = .ok (.iload_n 3, 1) := by decide +kernel
theorem dX7_put_56 : decode cX7_put 56 = .ok (.invokevirtual 268, 3) := by decide +kernel
theorem dX7_put_59 : decode cX7_put 59 = .ok (.iconst 1, 1) := by decide +kernel
theorem dX7_put_60 : decode cX7_put 60 = .ok (.ireturn, 1) := by decide +kernel
theorem dX7_faulted_0 : decode cX7_faulted 0 = .ok (.aload_n 0, 1) := by decide +kernel
theorem dX7_faulted_1 : decode cX7_faulted 1 = .ok (.iload_n 1, 1) := by decide +kernel
theorem dX7_faulted_2 : decode cX7_faulted 2 = .ok (.putfield 68, 3) := by decide +kernel
theorem dX7_faulted_5 : decode cX7_faulted 5 = .ok (.bipush (-10), 2) := by decide +kernel
theorem dX7_faulted_7 : decode cX7_faulted 7 = .ok (.iload_n 1, 1) := by decide +kernel
theorem dX7_faulted_8 : decode cX7_faulted 8 = .ok (.isub, 1) := by decide +kernel
theorem dX7_faulted_9 : decode cX7_faulted 9 = .ok (.ireturn, 1) := by decide +kernel
set_option maxRecDepth 20000 in
theorem ggX7_isSetting_X7_isWithin : GoodIn wsX7_isSetting wsX7_isWithin := goodIn_r _ [4] (by decide +kernel) (by decide +kernel)
set_option maxRecDepth 20000 in
theorem gX7_isSetting_X7_isWithin : GoodIn wsX7_isSetting (va_wsS RX7 125 yX7_isWithin wsX7_isWithin) := goodIn_app (goodIn_of _ (by decide +kernel)) ggX7_isSetting_X7_isWithin
theorem dX7_isSetting_0 : decode cX7_isSetting 0 = .ok (.iload_n 0, 1) := by decide +kernel
theorem dX7_isSetting_1 : decode cX7_isSetting 1 = .ok (.tableswitch 52 0 2 #[27, 35, 43], 27) := by decide +kernel
theorem dX7_isSetting_28 : decode cX7_isSetting 28 = .ok (.iload_n 1, 1) := by decide +kernel
theorem dX7_isSetting_29 : decode cX7_isSetting 29 = .ok (.bipush (-3), 2) := by decide +kernel
theorem dX7_isSetting_31 : decode cX7_isSetting 31 = .ok (.iconst 3, 1) := by decide +kernel
theorem dX7_isSetting_32 : decode cX7_isSetting 32 = .ok (.invokestatic 125, 3) := by decide +kernel
theorem dX7_isSetting_35 : decode cX7_isSetting 35 = .ok (.ireturn, 1) := by decide +kernel
theorem dX7_isSetting_36 : decode cX7_isSetting 36 = .ok (.iload_n 1, 1) := by decide +kernel
theorem dX7_isSetting_37 : decode cX7_isSetting 37 = .ok (.iconst 0, 1) := by decide +kernel
theorem dX7_isSetting_38 : decode cX7_isSetting 38 = .ok (.bipush 9, 2) := by decide +kernel
theorem dX7_isSetting_40 : decode cX7_isSetting 40 = .ok (.invokestatic 125, 3) := by decide +kernel
theorem dX7_isSetting_43 : decode cX7_isSetting 43 = .ok (.ireturn, 1) := by decide +kernel
theorem dX7_isSetting_44 : decode cX7_isSetting 44 = .ok (.iload_n 1, 1) := by decide +kernel
theorem dX7_isSetting_45 : decode cX7_isSetting 45 = .ok (.iconst 0, 1) := by decide +kernel
theorem dX7_isSetting_46 : decode cX7_isSetting 46 = .ok (.sipush 4095, 3) := by decide +kernel
theorem dX7_isSetting_49 : decode cX7_isSetting 49 = .ok (.invokestatic 125, 3) := by decide +kernel
theorem dX7_isSetting_52 : decode cX7_isSetting 52 = .ok (.ireturn, 1) := by decide +kernel
theorem dX7_isSetting_53 : decode cX7_isSetting 53 = .ok (.iconst 0, 1) := by decide +kernel
theorem dX7_isSetting_54 : decode cX7_isSetting 54 = .ok (.ireturn, 1) := by decide +kernel
theorem dX7_isWithin_0 : decode cX7_isWithin 0 = .ok (.iload_n 0, 1) := by decide +kernel
theorem dX7_isWithin_1 : decode cX7_isWithin 1 = .ok (.iload_n 1, 1) := by decide +kernel
theorem dX7_isWithin_2 : decode cX7_isWithin 2 = .ok (.if_icmp .lt 12, 3) := by decide +kernel
theorem dX7_isWithin_5 : decode cX7_isWithin 5 = .ok (.iload_n 0, 1) := by decide +kernel
theorem dX7_isWithin_6 : decode cX7_isWithin 6 = .ok (.iload_n 2, 1) := by decide +kernel
theorem dX7_isWithin_7 : decode cX7_isWithin 7 = .ok (.if_icmp .gt 7, 3) := by decide +kernel
theorem dX7_isWithin_10 : decode cX7_isWithin 10 = .ok (.iconst 1, 1) := by decide +kernel
theorem dX7_isWithin_11 : decode cX7_isWithin 11 = .ok (.goto 4, 3) := by decide +kernel
theorem dX7_isWithin_14 : decode cX7_isWithin 14 = .ok (.iconst 0, 1) := by decide +kernel
theorem dX7_isWithin_15 : decode cX7_isWithin 15 = .ok (.ireturn, 1) := by decide +kernel
set_option maxRecDepth 20000 in
theorem ggX7_isSheet_X7_isWithin : GoodIn wsX7_isSheet wsX7_isWithin := goodIn_r _ [4] (by decide +kernel) (by decide +kernel)
set_option maxRecDepth 20000 in
theorem gX7_isSheet_X7_isWithin : GoodIn wsX7_isSheet (va_wsS RX7 125 yX7_isWithin wsX7_isWithin) := goodIn_app (goodIn_of _ (by decide +kernel)) ggX7_isSheet_X7_isWithin
theorem dX7_isSheet_0 : decode cX7_isSheet 0 = .ok (.iload_n 0, 1) := by decide +kernel
theorem dX7_isSheet_1 : decode cX7_isSheet 1 = .ok (.iconst 0, 1) := by decide +kernel
theorem dX7_isSheet_2 : decode cX7_isSheet 2 = .ok (.iconst 3, 1) := by decide +kernel
theorem dX7_isSheet_3 : decode cX7_isSheet 3 = .ok (.invokestatic 125, 3) := by decide +kernel
theorem dX7_isSheet_6 : decode cX7_isSheet 6 = .ok (.ireturn, 1) := by decide +kernel
set_option maxRecDepth 20000 in
theorem ggX7_isSort_X7_isWithin : GoodIn wsX7_isSort wsX7_isWithin := goodIn_r _ [4] (by decide +kernel) (by decide +kernel)
set_option maxRecDepth 20000 in
theorem gX7_isSort_X7_isWithin : GoodIn wsX7_isSort (va_wsS RX7 125 yX7_isWithin wsX7_isWithin) := goodIn_app (goodIn_of _ (by decide +kernel)) ggX7_isSort_X7_isWithin
theorem dX7_isSort_0 : decode cX7_isSort 0 = .ok (.iload_n 0, 1) := by decide +kernel
theorem dX7_isSort_1 : decode cX7_isSort 1 = .ok (.iconst 0, 1) := by decide +kernel
theorem dX7_isSort_2 : decode cX7_isSort 2 = .ok (.iconst 2, 1) := by decide +kernel
theorem dX7_isSort_3 : decode cX7_isSort 3 = .ok (.invokestatic 125, 3) := by decide +kernel
theorem dX7_isSort_6 : decode cX7_isSort 6 = .ok (.ireturn, 1) := by decide +kernel
set_option maxRecDepth 20000 in
theorem ggX7_isKind_X7_isWithin : GoodIn wsX7_isKind wsX7_isWithin := goodIn_r _ [4] (by decide +kernel) (by decide +kernel)
set_option maxRecDepth 20000 in
theorem gX7_isKind_X7_isWithin : GoodIn wsX7_isKind (va_wsS RX7 125 yX7_isWithin wsX7_isWithin) := goodIn_app (goodIn_of _ (by decide +kernel)) ggX7_isKind_X7_isWithin
theorem dX7_isKind_0 : decode cX7_isKind 0 = .ok (.iload_n 0, 1) := by decide +kernel
theorem dX7_isKind_1 : decode cX7_isKind 1 = .ok (.iconst 0, 1) := by decide +kernel
theorem dX7_isKind_2 : decode cX7_isKind 2 = .ok (.iconst 2, 1) := by decide +kernel
theorem dX7_isKind_3 : decode cX7_isKind 3 = .ok (.invokestatic 125, 3) := by decide +kernel
theorem dX7_isKind_6 : decode cX7_isKind 6 = .ok (.ireturn, 1) := by decide +kernel
set_option maxRecDepth 20000 in
theorem ggX7_isClub_X7_isWithin : GoodIn wsX7_isClub wsX7_isWithin := goodIn_r _ [4] (by decide +kernel) (by decide +kernel)
set_option maxRecDepth 20000 in
theorem gX7_isClub_X7_isWithin : GoodIn wsX7_isClub (va_wsS RX7 125 yX7_isWithin wsX7_isWithin) := goodIn_app (goodIn_of _ (by decide +kernel)) ggX7_isClub_X7_isWithin
theorem dX7_isClub_0 : decode cX7_isClub 0 = .ok (.iload_n 0, 1) := by decide +kernel
theorem dX7_isClub_1 : decode cX7_isClub 1 = .ok (.iconst 0, 1) := by decide +kernel
theorem dX7_isClub_2 : decode cX7_isClub 2 = .ok (.iconst 3, 1) := by decide +kernel
theorem dX7_isClub_3 : decode cX7_isClub 3 = .ok (.invokestatic 125, 3) := by decide +kernel
theorem dX7_isClub_6 : decode cX7_isClub 6 = .ok (.ireturn, 1) := by decide +kernel
set_option maxRecDepth 20000 in
theorem ggX7_isHour_X7_isWithin : GoodIn wsX7_isHour wsX7_isWithin := goodIn_r _ [4] (by decide +kernel) (by decide +kernel)
set_option maxRecDepth 20000 in
theorem gX7_isHour_X7_isWithin : GoodIn wsX7_isHour (va_wsS RX7 125 yX7_isWithin wsX7_isWithin) := goodIn_app (goodIn_of _ (by decide +kernel)) ggX7_isHour_X7_isWithin
theorem dX7_isHour_0 : decode cX7_isHour 0 = .ok (.iload_n 0, 1) := by decide +kernel
theorem dX7_isHour_1 : decode cX7_isHour 1 = .ok (.iconst 0, 1) := by decide +kernel
theorem dX7_isHour_2 : decode cX7_isHour 2 = .ok (.bipush 11, 2) := by decide +kernel
theorem dX7_isHour_4 : decode cX7_isHour 4 = .ok (.invokestatic 125, 3) := by decide +kernel
theorem dX7_isHour_7 : decode cX7_isHour 7 = .ok (.ireturn, 1) := by decide +kernel
set_option maxRecDepth 20000 in
theorem ggX7_isPowder_X7_isWithin : GoodIn wsX7_isPowder wsX7_isWithin := goodIn_r _ [4] (by decide +kernel) (by decide +kernel)
set_option maxRecDepth 20000 in
theorem gX7_isPowder_X7_isWithin : GoodIn wsX7_isPowder (va_wsS RX7 125 yX7_isWithin wsX7_isWithin) := goodIn_app (goodIn_of _ (by decide +kernel)) ggX7_isPowder_X7_isWithin
theorem dX7_isPowder_0 : decode cX7_isPowder 0 = .ok (.iload_n 0, 1) := by decide +kernel
theorem dX7_isPowder_1 : decode cX7_isPowder 1 = .ok (.iconst 1, 1) := by decide +kernel
theorem dX7_isPowder_2 : decode cX7_isPowder 2 = .ok (.bipush 9, 2) := by decide +kernel
theorem dX7_isPowder_4 : decode cX7_isPowder 4 = .ok (.invokestatic 125, 3) := by decide +kernel
theorem dX7_isPowder_7 : decode cX7_isPowder 7 = .ok (.ireturn, 1) := by decide +kernel
