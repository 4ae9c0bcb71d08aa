theorem dX0_init_0 : decode cX0_init 0 = .ok (.aload_n 0, 1) := by decide +kernel
theorem dX0_init_1 : decode cX0_init 1 = .ok (.invokespecial 1, 3) := by decide +kernel
theorem dX0_init_4 : decode cX0_init 4 = .ok (.aload_n 0, 1) := by decide +kernel
theorem dX0_init_5 : decode cX0_init 5 = .ok (.iload_n 1, 1) := by decide +kernel
theorem dX0_init_6 : decode cX0_init 6 = .ok (.putfield 7, 3) := by decide +kernel
theorem dX0_init_9 : decode cX0_init 9 = .ok (.aload_n 0, 1) := by decide +kernel
theorem dX0_init_10 : decode cX0_init 10 = .ok (.iload_n 2, 1) := by decide +kernel
theorem dX0_init_11 : decode cX0_init 11 = .ok (.putfield 13, 3) := by decide +kernel
theorem dX0_init_14 : decode cX0_init 14 = .ok (.aload_n 0, 1) := by decide +kernel
theorem dX0_init_15 : decode cX0_init 15 = .ok (.iload_n 3, 1) := by decide +kernel
theorem dX0_init_16 : decode cX0_init 16 = .ok (.putfield 16, 3) := by decide +kernel
theorem dX0_init_19 : decode cX0_init 19 = .ok (.aload_n 0, 1) := by decide +kernel
theorem dX0_init_20 : decode cX0_init 20 = .ok (.iload 4, 2) := by decide +kernel
theorem dX0_init_22 : decode cX0_init 22 = .ok (.putfield 19, 3) := by decide +kernel
theorem dX0_init_25 : decode cX0_init 25 = .ok (.aload_n 0, 1) := by decide +kernel
theorem dX0_init_26 : decode cX0_init 26 = .ok (.lload 5, 2) := by decide +kernel
theorem dX0_init_28 : decode cX0_init 28 = .ok (.putfield 22, 3) := by decide +kernel
theorem dX0_init_31 : decode cX0_init 31 = .ok (.aload_n 0, 1) := by decide +kernel
theorem dX0_init_32 : decode cX0_init 32 = .ok (.aload 7, 2) := by decide +kernel
theorem dX0_init_34 : decode cX0_init 34 = .ok (.putfield 26, 3) := by decide +kernel
theorem dX0_init_37 : decode cX0_init 37 = .ok (.aload_n 0, 1) := by decide +kernel
theorem dX0_init_38 : decode cX0_init 38 = .ok (.aload 8, 2) := by decide +kernel
theorem dX0_init_40 : decode cX0_init 40 = .ok (.putfield 30, 3) := by decide +kernel
theorem dX0_init_43 : decode cX0_init 43 = .ok (.aload_n 0, 1) := by decide +kernel
theorem dX0_init_44 : decode cX0_init 44 = .ok (.iconst 0, 1) := by decide +kernel
theorem dX0_init_45 : decode cX0_init 45 = .ok (.putfield 33, 3) := by decide +kernel
theorem dX0_init_48 : decode cX0_init 48 = .ok (.return_, 1) := by decide +kernel
set_option maxRecDepth 20000 in
theorem ggX1_init_X0_init : GoodIn wsX1_init wsX0_init := goodIn_r _ [20, 21, 2, 3, 22, 23, 24, 25, 26, 27, 28, 29, 45, 46, 47, 48, 49, 50, 51, 52] (by decide +kernel) (by decide +kernel)
set_option maxRecDepth 20000 in
theorem gX1_init_X0_init : GoodIn wsX1_init (wsX0_init) := ggX1_init_X0_init
theorem dX1_init_0 : decode cX1_init 0 = .ok (.aload_n 0, 1) := by decide +kernel
theorem dX1_init_1 : decode cX1_init 1 = .ok (.invokespecial 1, 3) := by decide +kernel
theorem dX1_init_4 : decode cX1_init 4 = .ok (.aload_n 0, 1) := by decide +kernel
theorem dX1_init_5 : decode cX1_init 5 = .ok (.bipush 6, 2) := by decide +kernel
theorem dX1_init_7 : decode cX1_init 7 = .ok (.newarray .long, 2) := by decide +kernel
theorem dX1_init_9 : decode cX1_init 9 = .ok (.putfield 9, 3) := by decide +kernel
theorem dX1_init_12 : decode cX1_init 12 = .ok (.aload_n 0, 1) := by decide +kernel
theorem dX1_init_13 : decode cX1_init 13 = .ok (.bipush 6, 2) := by decide +kernel
theorem dX1_init_15 : decode cX1_init 15 = .ok (.newarray .int, 2) := by decide +kernel
theorem dX1_init_17 : decode cX1_init 17 = .ok (.putfield 13, 3) := by decide +kernel
theorem dX1_init_20 : decode cX1_init 20 = .ok (.aload_n 0, 1) := by decide +kernel
theorem dX1_init_21 : decode cX1_init 21 = .ok (.bipush 10, 2) := by decide +kernel
theorem dX1_init_23 : decode cX1_init 23 = .ok (.anewarray 17, 3) := by decide +kernel
theorem dX1_init_26 : decode cX1_init 26 = .ok (.putfield 19, 3) := by decide +kernel
theorem dX1_init_29 : decode cX1_init 29 = .ok (.aload_n 0, 1) := by decide +kernel
theorem dX1_init_30 : decode cX1_init 30 = .ok (.bipush 40, 2) := by decide +kernel
theorem dX1_init_32 : decode cX1_init 32 = .ok (.newarray .int, 2) := by decide +kernel
theorem dX1_init_34 : decode cX1_init 34 = .ok (.putfield 23, 3) := by decide +kernel
theorem dX1_init_37 : decode cX1_init 37 = .ok (.aload_n 0, 1) := by decide +kernel
theorem dX1_init_38 : decode cX1_init 38 = .ok (.bipush 40, 2) := by decide +kernel
theorem dX1_init_40 : decode cX1_init 40 = .ok (.newarray .long, 2) := by decide +kernel
theorem dX1_init_42 : decode cX1_init 42 = .ok (.putfield 26, 3) := by decide +kernel
theorem dX1_init_45 : decode cX1_init 45 = .ok (.aload_n 0, 1) := by decide +kernel
theorem dX1_init_46 : decode cX1_init 46 = .ok (.bipush 30, 2) := by decide +kernel
theorem dX1_init_48 : decode cX1_init 48 = .ok (.newarray .int, 2) := by decide +kernel
theorem dX1_init_50 : decode cX1_init 50 = .ok (.putfield 29, 3) := by decide +kernel
theorem dX1_init_53 : decode cX1_init 53 = .ok (.aload_n 0, 1) := by decide +kernel
theorem dX1_init_54 : decode cX1_init 54 = .ok (.bipush 30, 2) := by decide +kernel
theorem dX1_init_56 : decode cX1_init 56 = .ok (.newarray .int, 2) := by decide +kernel
theorem dX1_init_58 : decode cX1_init 58 = .ok (.putfield 32, 3) := by decide +kernel
theorem dX1_init_61 : decode cX1_init 61 = .ok (.aload_n 0, 1) := by decide +kernel
theorem dX1_init_62 : decode cX1_init 62 = .ok (.bipush 30, 2) := by decide +kernel
theorem dX1_init_64 : decode cX1_init 64 = .ok (.newarray .long, 2) := by decide +kernel
theorem dX1_init_66 : decode cX1_init 66 = .ok (.putfield 35, 3) := by decide +kernel
theorem dX1_init_69 : decode cX1_init 69 = .ok (.aload_n 0, 1) := by decide +kernel
theorem dX1_init_70 : decode cX1_init 70 = .ok (.getfield 19, 3) := by decide +kernel
theorem dX1_init_73 : decode cX1_init 73 = .ok (.iconst 0, 1) := by decide +kernel
theorem dX1_init_74 : decode cX1_init 74 = .ok (.new 17, 3) := by decide +kernel
theorem dX1_init_77 : decode cX1_init 77 = .ok (.dup, 1) := by decide +kernel
theorem dX1_init_78 : decode cX1_init 78 = .ok (.iconst 0, 1) := by decide +kernel
theorem dX1_init_79 : decode cX1_init 79 = .ok (.iconst 0, 1) := by decide +kernel
theorem dX1_init_80 : decode cX1_init 80 = .ok (.iconst 0, 1) := by decide +kernel
theorem dX1_init_81 : decode cX1_init 81 = .ok (.iconst 0, 1) := by decide +kernel
theorem dX1_init_82 : decode cX1_init 82 = .ok (.lconst 0, 1) := by decide +kernel
theorem dX1_init_83 : decode cX1_init 83 = .ok (.aconst_null, 1) := by decide +kernel
theorem dX1_init_84 : decode cX1_init 84 = .ok (.aconst_null, 1) := by decide +kernel
theorem dX1_init_85 : decode cX1_init 85 = .ok (.invokespecial 38, 3) := by decide +kernel
theorem dX1_init_88 : decode cX1_init 88 = .ok (.aastore, 1) := by decide +kernel
theorem dX1_init_89 : decode cX1_init 89 = .ok (.aload_n 0, 1) := by decide +kernel
theorem dX1_init_90 : decode cX1_init 90 = .ok (.getfield 19, 3) := by decide +kernel
theorem dX1_init_93 : decode cX1_init 93 = .ok (.iconst 1, 1) := by decide +kernel
theorem dX1_init_94 : decode cX1_init 94 = .ok (.new 17, 3) := by decide +kernel
theorem dX1_init_97 : decode cX1_init 97 = .ok (.dup, 1) := by decide +kernel
theorem dX1_init_98 : decode cX1_init 98 = .ok (.iconst 1, 1) := by decide +kernel
theorem dX1_init_99 : decode cX1_init 99 = .ok (.bipush 12, 2) := by decide +kernel
theorem dX1_init_101 : decode cX1_init 101 = .ok (.iconst 1, 1) := by decide +kernel
theorem dX1_init_102 : decode cX1_init 102 = .ok (.iconst 0, 1) := by decide +kernel
theorem dX1_init_103 : decode cX1_init 103 = .ok (.ldc2_w 41, 3) := by decide +kernel
theorem dX1_init_106 : decode cX1_init 106 = .ok (.aconst_null, 1) := by decide +kernel
theorem dX1_init_107 : decode cX1_init 107 = .ok (.aconst_null, 1) := by decide +kernel
theorem dX1_init_108 : decode cX1_init 108 = .ok (.invokespecial 38, 3) := by decide +kernel
theorem dX1_init_111 : decode cX1_init 111 = .ok (.aastore, 1) := by decide +kernel
theorem dX1_init_112 : decode cX1_init 112 = .ok (.return_, 1) := by decide +kernel
set_option maxRecDepth 20000 in
theorem ggX1_handle_X1_isKind : GoodIn wsX1_handle wsX1_isKind := goodIn_r _ [9] (by decide +kernel) (by decide +kernel)
set_option maxRecDepth 20000 in
theorem gX1_handle_X1_isKind : GoodIn wsX1_handle (va_wsS RX1 43 yX1_isKind wsX1_isKind) := goodIn_app (goodIn_of _ (by decide +kernel)) ggX1_handle_X1_isKind
set_option maxRecDepth 20000 in
theorem ggX1_handle_X1_namesKnown : GoodIn wsX1_handle wsX1_namesKnown := goodIn_r _ [12, 13, 14, 8, 15, 6, 7, 9] (by decide +kernel) (by decide +kernel)
set_option maxRecDepth 20000 in
theorem gX1_handle_X1_namesKnown : GoodIn wsX1_handle (va_wsS RX1 47 yX1_namesKnown wsX1_namesKnown) := goodIn_app (goodIn_of _ (by decide +kernel)) ggX1_handle_X1_namesKnown
set_option maxRecDepth 20000 in
theorem ggX1_handle_X1_handlerOf : GoodIn wsX1_handle wsX1_handlerOf := goodIn_r _ [19, 2, 6, 7, 8, 9, 34, 35, 36, 37, 38, 39, 40, 41, 42, 43, 44, 45, 46, 47, 48] (by decide +kernel) (by decide +kernel)
set_option maxRecDepth 20000 in
theorem gX1_handle_X1_handlerOf : GoodIn wsX1_handle (wsV RX1 55 RX1 yX1_handlerOf wsX1_handlerOf) := goodIn_app (goodIn_of _ (by decide +kernel)) ggX1_handle_X1_handlerOf
set_option maxRecDepth 20000 in
theorem ggX1_handle_X0_init : GoodIn wsX1_handle wsX0_init := goodIn_r _ [22, 23, 24, 25, 26, 27, 28, 29, 30, 31, 32, 33, 49, 50, 51, 52, 53, 54, 55, 56] (by decide +kernel) (by decide +kernel)
set_option maxRecDepth 20000 in
theorem gX1_handle_X0_init : GoodIn wsX1_handle (wsX0_init) := ggX1_handle_X0_init
theorem dX1_handle_0 : decode cX1_handle 0 = .ok (.iload_n 2, 1) := by decide +kernel
theorem dX1_handle_1 : decode cX1_handle 1 = .ok (.ifCond .lt 9, 3) := by decide +kernel
theorem dX1_handle_4 : decode cX1_handle 4 = .ok (.iload_n 2, 1) := by decide +kernel
theorem dX1_handle_5 : decode cX1_handle 5 = .ok (.bipush 11, 2) := by decide +kernel
theorem dX1_handle_7 : decode cX1_handle 7 = .ok (.if_icmp .le 6, 3) := by decide +kernel
theorem dX1_handle_10 : decode cX1_handle 10 = .ok (.bipush (-3), 2) := by decide +kernel
theorem dX1_handle_12 : decode cX1_handle 12 = .ok (.ireturn, 1) := by decide +kernel
theorem dX1_handle_13 : decode cX1_handle 13 = .ok (.iload_n 1, 1) := by decide +kernel
theorem dX1_handle_14 : decode cX1_handle 14 = .ok (.invokestatic 43, 3) := by decide +kernel
theorem dX1_handle_17 : decode cX1_handle 17 = .ok (.ifCond .eq 13, 3) := by decide +kernel
theorem dX1_handle_20 : decode cX1_handle 20 = .ok (.iload_n 2, 1) := by decide +kernel
theorem dX1_handle_21 : decode cX1_handle 21 = .ok (.iload_n 3, 1) := by decide +kernel
theorem dX1_handle_22 : decode cX1_handle 22 = .ok (.iload 4, 2) := by decide +kernel
theorem dX1_handle_24 : decode cX1_handle 24 = .ok (.invokestatic 47, 3) := by decide +kernel
theorem dX1_handle_27 : decode cX1_handle 27 = .ok (.ifCond .ne 6, 3) := by decide +kernel
theorem dX1_handle_30 : decode cX1_handle 30 = .ok (.bipush (-2), 2) := by decide +kernel
theorem dX1_handle_32 : decode cX1_handle 32 = .ok (.ireturn, 1) := by decide +kernel
theorem dX1_handle_33 : decode cX1_handle 33 = .ok (.iload_n 2, 1) := by decide +kernel
theorem dX1_handle_34 : decode cX1_handle 34 = .ok (.iconst 5, 1) := by decide +kernel
theorem dX1_handle_35 : decode cX1_handle 35 = .ok (.if_icmp .ne 18, 3) := by decide +kernel
theorem dX1_handle_38 : decode cX1_handle 38 = .ok (.iload 4, 2) := by decide +kernel
theorem dX1_handle_40 : decode cX1_handle 40 = .ok (.ifCond .lt 10, 3) := by decide +kernel
theorem dX1_handle_43 : decode cX1_handle 43 = .ok (.iload 4, 2) := by decide +kernel
theorem dX1_handle_45 : decode cX1_handle 45 = .ok (.bipush 100, 2) := by decide +kernel
theorem dX1_handle_47 : decode cX1_handle 47 = .ok (.if_icmp .le 6, 3) := by decide +kernel
theorem dX1_handle_50 : decode cX1_handle 50 = .ok (.bipush (-3), 2) := by decide +kernel
theorem dX1_handle_52 : decode cX1_handle 52 = .ok (.ireturn, 1) := by decide +kernel
theorem dX1_handle_53 : decode cX1_handle 53 = .ok (.aload_n 0, 1) := by decide +kernel
theorem dX1_handle_54 : decode cX1_handle 54 = .ok (.getfield 51, 3) := by decide +kernel
theorem dX1_handle_57 : decode cX1_handle 57 = .ok (.sipush 200, 3) := by decide +kernel
theorem dX1_handle_60 : decode cX1_handle 60 = .ok (.if_icmp .lt 6, 3) := by decide +kernel
theorem dX1_handle_63 : decode cX1_handle 63 = .ok (.bipush (-4), 2) := by decide +kernel
theorem dX1_handle_65 : decode cX1_handle 65 = .ok (.ireturn, 1) := by decide +kernel
theorem dX1_handle_66 : decode cX1_handle 66 = .ok (.aload_n 0, 1) := by decide +kernel
theorem dX1_handle_67 : decode cX1_handle 67 = .ok (.getfield 19, 3) := by decide +kernel
theorem dX1_handle_70 : decode cX1_handle 70 = .ok (.iload_n 1, 1) := by decide +kernel
theorem dX1_handle_71 : decode cX1_handle 71 = .ok (.aaload, 1) := by decide +kernel
theorem dX1_handle_72 : decode cX1_handle 72 = .ok (.astore 7, 2) := by decide +kernel
theorem dX1_handle_74 : decode cX1_handle 74 = .ok (.iload_n 2, 1) := by decide +kernel
theorem dX1_handle_75 : decode cX1_handle 75 = .ok (.iconst 2, 1) := by decide +kernel
theorem dX1_handle_76 : decode cX1_handle 76 = .ok (.if_icmp .eq 9, 3) := by decide +kernel
theorem dX1_handle_79 : decode cX1_handle 79 = .ok (.iload_n 2, 1) := by decide +kernel
theorem dX1_handle_80 : decode cX1_handle 80 = .ok (.bipush 7, 2) := by decide +kernel
theorem dX1_handle_82 : decode cX1_handle 82 = .ok (.if_icmp .ne 11, 3) := by decide +kernel
theorem dX1_handle_85 : decode cX1_handle 85 = .ok (.aload_n 0, 1) := by decide +kernel
theorem dX1_handle_86 : decode cX1_handle 86 = .ok (.iload_n 3, 1) := by decide +kernel
theorem dX1_handle_87 : decode cX1_handle 87 = .ok (.invokevirtual 55, 3) := by decide +kernel
theorem dX1_handle_90 : decode cX1_handle 90 = .ok (.goto 4, 3) := by decide +kernel
theorem dX1_handle_93 : decode cX1_handle 93 = .ok (.aconst_null, 1) := by decide +kernel
theorem dX1_handle_94 : decode cX1_handle 94 = .ok (.astore 8, 2) := by decide +kernel
theorem dX1_handle_96 : decode cX1_handle 96 = .ok (.aload_n 0, 1) := by decide +kernel
theorem dX1_handle_97 : decode cX1_handle 97 = .ok (.getfield 19, 3) := by decide +kernel
theorem dX1_handle_100 : decode cX1_handle 100 = .ok (.iload_n 1, 1) := by decide +kernel
theorem dX1_handle_101 : decode cX1_handle 101 = .ok (.new 17, 3) := by decide +kernel
theorem dX1_handle_104 : decode cX1_handle 104 = .ok (.dup, 1) := by decide +kernel
theorem dX1_handle_105 : decode cX1_handle 105 = .ok (.iload_n 1, 1) := by decide +kernel
theorem dX1_handle_106 : decode cX1_handle 106 = .ok (.iload_n 2, 1) := by decide +kernel
theorem dX1_handle_107 : decode cX1_handle 107 = .ok (.iload_n 3, 1) := by decide +kernel
theorem dX1_handle_108 : decode cX1_handle 108 = .ok (.iload 4, 2) := by decide +kernel
theorem dX1_handle_110 : decode cX1_handle 110 = .ok (.lload 5, 2) := by decide +kernel
theorem dX1_handle_112 : decode cX1_handle 112 = .ok (.aload 7, 2) := by decide +kernel
theorem dX1_handle_114 : decode cX1_handle 114 = .ok (.aload 8, 2) := by decide +kernel
theorem dX1_handle_116 : decode cX1_handle 116 = .ok (.invokespecial 38, 3) := by decide +kernel
theorem dX1_handle_119 : decode cX1_handle 119 = .ok (.aastore, 1) := by decide +kernel
theorem dX1_handle_120 : decode cX1_handle 120 = .ok (.aload_n 0, 1) := by decide +kernel
theorem dX1_handle_121 : decode cX1_handle 121 = .ok (.dup, 1) := by decide +kernel
theorem dX1_handle_122 : decode cX1_handle 122 = .ok (.getfield 51, 3) := by decide +kernel
theorem dX1_handle_125 : decode cX1_handle 125 = .ok (.iconst 1, 1) := by decide +kernel
theorem dX1_handle_126 : decode cX1_handle 126 = .ok (.iadd, 1) := by decide +kernel
theorem dX1_handle_127 : decode cX1_handle 127 = .ok (.putfield 51, 3) := by decide +kernel
theorem dX1_handle_130 : decode cX1_handle 130 = .ok (.aload 7, 2) := by decide +kernel
theorem dX1_handle_132 : decode cX1_handle 132 = .ok (.ifnull 7, 3) := by decide +kernel
theorem dX1_handle_135 : decode cX1_handle 135 = .ok (.iconst 1, 1) := by decide +kernel
theorem dX1_handle_136 : decode cX1_handle 136 = .ok (.goto 4, 3) := by decide +kernel
theorem dX1_handle_139 : decode cX1_handle 139 = .ok (.iconst 0, 1) := by decide +kernel
theorem dX1_handle_140 : decode cX1_handle 140 = .ok (.ireturn, 1) := by decide +kernel
set_option maxRecDepth 20000 in
theorem ggX1_drop_X1_isKind : GoodIn wsX1_drop wsX1_isKind := goodIn_r _ [5] (by decide +kernel) (by decide +kernel)
set_option maxRecDepth 20000 in
theorem gX1_drop_X1_isKind : GoodIn wsX1_drop (va_wsS RX1 43 yX1_isKind wsX1_isKind) := goodIn_app (goodIn_of _ (by decide +kernel)) ggX1_drop_X1_isKind
theorem dX1_drop_0 : decode cX1_drop 0 = .ok (.iload_n 1, 1) := by decide +kernel
theorem dX1_drop_1 : decode cX1_drop 1 = .ok (.invokestatic 43, 3) := by decide +kernel
theorem dX1_drop_4 : decode cX1_drop 4 = .ok (.ifCond .ne 6, 3) := by decide +kernel
theorem dX1_drop_7 : decode cX1_drop 7 = .ok (.bipush (-2), 2) := by decide +kernel
theorem dX1_drop_9 : decode cX1_drop 9 = .ok (.ireturn, 1) := by decide +kernel
theorem dX1_drop_10 : decode cX1_drop 10 = .ok (.aload_n 0, 1) := by decide +kernel
theorem dX1_drop_11 : decode cX1_drop 11 = .ok (.getfield 19, 3) := by decide +kernel
theorem dX1_drop_14 : decode cX1_drop 14 = .ok (.iload_n 1, 1) := by decide +kernel
theorem dX1_drop_15 : decode cX1_drop 15 = .ok (.aaload, 1) := by decide +kernel
theorem dX1_drop_16 : decode cX1_drop 16 = .ok (.ifnull 7, 3) := by decide +kernel
theorem dX1_drop_19 : decode cX1_drop 19 = .ok (.iconst 1, 1) := by decide +kernel
theorem dX1_drop_20 : decode cX1_drop 20 = .ok (.goto 4, 3) := by decide +kernel
theorem dX1_drop_23 : decode cX1_drop 23 = .ok (.iconst 0, 1) := by decide +kernel
theorem dX1_drop_24 : decode cX1_drop 24 = .ok (.istore_n 2, 1) := by decide +kernel
theorem dX1_drop_25 : decode cX1_drop 25 = .ok (.aload_n 0, 1) := by decide +kernel
theorem dX1_drop_26 : decode cX1_drop 26 = .ok (.getfield 19, 3) := by decide +kernel
theorem dX1_drop_29 : decode cX1_drop 29 = .ok (.iload_n 1, 1) := by decide +kernel
theorem dX1_drop_30 : decode cX1_drop 30 = .ok (.aconst_null, 1) := by decide +kernel
theorem dX1_drop_31 : decode cX1_drop 31 = .ok (.aastore, 1) := by decide +kernel
theorem dX1_drop_32 : decode cX1_drop 32 = .ok (.iload_n 2, 1) := by decide +kernel
theorem dX1_drop_33 : decode cX1_drop 33 = .ok (.ireturn, 1) := by decide +kernel
set_option maxRecDepth 20000 in
theorem ggX1_has_X1_isKind : GoodIn wsX1_has wsX1_isKind := goodIn_r _ [5] (by decide +kernel) (by decide +kernel)
set_option maxRecDepth 20000 in
theorem gX1_has_X1_isKind : GoodIn wsX1_has (va_wsS RX1 43 yX1_isKind wsX1_isKind) := goodIn_app (goodIn_of _ (by decide +kernel)) ggX1_has_X1_isKind
theorem dX1_has_0 : decode cX1_has 0 = .ok (.iload_n 1, 1) := by decide +kernel
theorem dX1_has_1 : decode cX1_has 1 = .ok (.invokestatic 43, 3) := by decide +kernel
theorem dX1_has_4 : decode cX1_has 4 = .ok (.ifCond .ne 6, 3) := by decide +kernel
theorem dX1_has_7 : decode cX1_has 7 = .ok (.bipush (-2), 2) := by decide +kernel
theorem dX1_has_9 : decode cX1_has 9 = .ok (.ireturn, 1) := by decide +kernel
theorem dX1_has_10 : decode cX1_has 10 = .ok (.aload_n 0, 1) := by decide +kernel
theorem dX1_has_11 : decode cX1_has 11 = .ok (.getfield 19, 3) := by decide +kernel
theorem dX1_has_14 : decode cX1_has 14 = .ok (.iload_n 1, 1) := by decide +kernel
theorem dX1_has_15 : decode cX1_has 15 = .ok (.aaload, 1) := by decide +kernel
theorem dX1_has_16 : decode cX1_has 16 = .ok (.ifnull 7, 3) := by decide +kernel
theorem dX1_has_19 : decode cX1_has 19 = .ok (.iconst 1, 1) := by decide +kernel
theorem dX1_has_20 : decode cX1_has 20 = .ok (.goto 4, 3) := by decide +kernel
theorem dX1_has_23 : decode cX1_has 23 = .ok (.iconst 0, 1) := by decide +kernel
theorem dX1_has_24 : decode cX1_has 24 = .ok (.ireturn, 1) := by decide +kernel
set_option maxRecDepth 20000 in
theorem ggX1_post_X1_isKind : GoodIn wsX1_post wsX1_isKind := goodIn_r _ [5] (by decide +kernel) (by decide +kernel)
set_option maxRecDepth 20000 in
theorem gX1_post_X1_isKind : GoodIn wsX1_post (va_wsS RX1 43 yX1_isKind wsX1_isKind) := goodIn_app (goodIn_of _ (by decide +kernel)) ggX1_post_X1_isKind
set_option maxRecDepth 20000 in
theorem ggX1_post_X1_enqueue : GoodIn wsX1_post wsX1_enqueue := goodIn_r _ [9, 1, 10, 11, 12, 13, 14, 15, 16, 17, 18, 19, 20, 21, 22, 23, 24, 25, 26, 27] (by decide +kernel) (by decide +kernel)
set_option maxRecDepth 20000 in
theorem gX1_post_X1_enqueue : GoodIn wsX1_post (wsV RX1 59 RX1 yX1_enqueue wsX1_enqueue) := goodIn_app (goodIn_of _ (by decide +kernel)) ggX1_post_X1_enqueue
theorem dX1_post_0 : decode cX1_post 0 = .ok (.iload_n 1, 1) := by decide +kernel
theorem dX1_post_1 : decode cX1_post 1 = .ok (.invokestatic 43, 3) := by decide +kernel
theorem dX1_post_4 : decode cX1_post 4 = .ok (.ifCond .ne 6, 3) := by decide +kernel
theorem dX1_post_7 : decode cX1_post 7 = .ok (.bipush (-2), 2) := by decide +kernel
theorem dX1_post_9 : decode cX1_post 9 = .ok (.ireturn, 1) := by decide +kernel
theorem dX1_post_10 : decode cX1_post 10 = .ok (.aload_n 0, 1) := by decide +kernel
theorem dX1_post_11 : decode cX1_post 11 = .ok (.iload_n 1, 1) := by decide +kernel
theorem dX1_post_12 : decode cX1_post 12 = .ok (.lload_n 2, 1) := by decide +kernel
theorem dX1_post_13 : decode cX1_post 13 = .ok (.invokevirtual 59, 3) := by decide +kernel
theorem dX1_post_16 : decode cX1_post 16 = .ok (.ifCond .ne 10, 3) := by decide +kernel
theorem dX1_post_19 : decode cX1_post 19 = .ok (.aload_n 0, 1) := by decide +kernel
theorem dX1_post_20 : decode cX1_post 20 = .ok (.getfield 63, 3) := by decide +kernel
theorem dX1_post_23 : decode cX1_post 23 = .ok (.goto 5, 3) := by decide +kernel
theorem dX1_post_26 : decode cX1_post 26 = .ok (.bipush (-4), 2) := by decide +kernel
theorem dX1_post_28 : decode cX1_post 28 = .ok (.ireturn, 1) := by decide +kernel
set_option maxRecDepth 20000 in
theorem ggX1_take_X1_takeFirst : GoodIn wsX1_take wsX1_takeFirst := goodIn_r _ [7, 8, 9, 10, 2, 11, 12, 13, 14, 6, 15, 16, 1, 17, 18, 19, 20, 21, 22, 23, 24, 25, 26, 27, 28, 29, 30, 31, 32, 33, 34, 35, 36, 37, 38, 39, 40, 41, 42, 43, 44, 45, 46, 47, 48, 49, 50, 51, 52, 53, 54, 55, 56, 57, 58, 59, 60, 61, 62, 63, 64, 65, 66, 67, 68, 69, 70, 71, 72, 73, 74, 75, 76, 77, 78, 79, 80, 81, 82, 83, 84, 85, 86, 87, 88, 89, 90, 91, 92, 93, 94, 95, 96, 97, 98, 99, 100, 101, 102, 103, 104, 105, 106, 107, 108, 109, 110, 111, 112, 113, 114, 115, 116] (by decide +kernel) (by decide +kernel)
set_option maxRecDepth 20000 in
theorem gX1_take_X1_takeFirst : GoodIn wsX1_take (wsV RX1 69 RX1 yX1_takeFirst wsX1_takeFirst) := goodIn_app (goodIn_of _ (by decide +kernel)) ggX1_take_X1_takeFirst
theorem dX1_take_0 : decode cX1_take 0 = .ok (.iload_n 1, 1) := by decide +kernel
theorem dX1_take_1 : decode cX1_take 1 = .ok (.iconst 1, 1) := by decide +kernel
theorem dX1_take_2 : decode cX1_take 2 = .ok (.if_icmp .lt 9, 3) := by decide +kernel
theorem dX1_take_5 : decode cX1_take 5 = .ok (.iload_n 1, 1) := by decide +kernel
theorem dX1_take_6 : decode cX1_take 6 = .ok (.bipush 6, 2) := by decide +kernel
theorem dX1_take_8 : decode cX1_take 8 = .ok (.if_icmp .le 6, 3) := by decide +kernel
theorem dX1_take_11 : decode cX1_take 11 = .ok (.bipush (-3), 2) := by decide +kernel
theorem dX1_take_13 : decode cX1_take 13 = .ok (.ireturn, 1) := by decide +kernel
theorem dX1_take_14 : decode cX1_take 14 = .ok (.aload_n 0, 1) := by decide +kernel
theorem dX1_take_15 : decode cX1_take 15 = .ok (.iconst 0, 1) := by decide +kernel
theorem dX1_take_16 : decode cX1_take 16 = .ok (.putfield 66, 3) := by decide +kernel
theorem dX1_take_19 : decode cX1_take 19 = .ok (.iconst 0, 1) := by decide +kernel
theorem dX1_take_20 : decode cX1_take 20 = .ok (.istore_n 2, 1) := by decide +kernel
theorem dX1_take_21 : decode cX1_take 21 = .ok (.iload_n 2, 1) := by decide +kernel
theorem dX1_take_22 : decode cX1_take 22 = .ok (.iload_n 1, 1) := by decide +kernel
theorem dX1_take_23 : decode cX1_take 23 = .ok (.if_icmp .ge 20, 3) := by decide +kernel
theorem dX1_take_26 : decode cX1_take 26 = .ok (.aload_n 0, 1) := by decide +kernel
theorem dX1_take_27 : decode cX1_take 27 = .ok (.getfield 63, 3) := by decide +kernel
theorem dX1_take_30 : decode cX1_take 30 = .ok (.ifCond .le 13, 3) := by decide +kernel
theorem dX1_take_33 : decode cX1_take 33 = .ok (.aload_n 0, 1) := by decide +kernel
theorem dX1_take_34 : decode cX1_take 34 = .ok (.invokevirtual 69, 3) := by decide +kernel
theorem dX1_take_37 : decode cX1_take 37 = .ok (.iinc 2 1, 3) := by decide +kernel
theorem dX1_take_40 : decode cX1_take 40 = .ok (.goto (-19), 3) := by decide +kernel
theorem dX1_take_43 : decode cX1_take 43 = .ok (.iload_n 2, 1) := by decide +kernel
theorem dX1_take_44 : decode cX1_take 44 = .ok (.ireturn, 1) := by decide +kernel
set_option maxRecDepth 20000 in
theorem ggX1_give_X1_isKind : GoodIn wsX1_give wsX1_isKind := goodIn_r _ [5] (by decide +kernel) (by decide +kernel)
set_option maxRecDepth 20000 in
theorem gX1_give_X1_isKind : GoodIn wsX1_give (va_wsS RX1 43 yX1_isKind wsX1_isKind) := goodIn_app (goodIn_of _ (by decide +kernel)) ggX1_give_X1_isKind
set_option maxRecDepth 20000 in
theorem ggX1_give_X1_deliver : GoodIn wsX1_give wsX1_deliver := goodIn_r _ [9, 10, 1, 11, 12, 13, 4, 14, 15, 2, 3, 5, 16, 17, 18, 19, 20, 21, 22, 23, 24, 25, 26, 27, 28, 29, 30, 31, 32, 33, 34, 35, 36, 37, 38, 39, 40, 41, 42, 43, 44, 45, 46, 47, 48, 49, 50, 51, 52, 53, 54, 55, 56, 57, 58, 59, 60, 61, 62, 63, 64, 65, 66, 67, 68, 69, 70, 71, 72, 73, 74, 75, 76, 77, 78, 79, 80, 81, 82, 83, 84, 85, 86, 87, 88, 89, 90, 91, 92, 93, 94, 95, 96, 97, 98, 99, 100, 101, 102, 103] (by decide +kernel) (by decide +kernel)
set_option maxRecDepth 20000 in
theorem gX1_give_X1_deliver : GoodIn wsX1_give (wsV RX1 72 RX1 yX1_deliver wsX1_deliver) := goodIn_app (goodIn_of _ (by decide +kernel)) ggX1_give_X1_deliver
theorem dX1_give_0 : decode cX1_give 0 = .ok (.iload_n 1, 1) := by decide +kernel
theorem dX1_give_1 : decode cX1_give 1 = .ok (.invokestatic 43, 3) := by decide +kernel
theorem dX1_give_4 : decode cX1_give 4 = .ok (.ifCond .ne 6, 3) := by decide +kernel
theorem dX1_give_7 : decode cX1_give 7 = .ok (.bipush (-2), 2) := by decide +kernel
theorem dX1_give_9 : decode cX1_give 9 = .ok (.ireturn, 1) := by decide +kernel
theorem dX1_give_10 : decode cX1_give 10 = .ok (.aload_n 0, 1) := by decide +kernel
theorem dX1_give_11 : decode cX1_give 11 = .ok (.iconst 0, 1) := by decide +kernel
theorem dX1_give_12 : decode cX1_give 12 = .ok (.putfield 66, 3) := by decide +kernel
theorem dX1_give_15 : decode cX1_give 15 = .ok (.aload_n 0, 1) := by decide +kernel
theorem dX1_give_16 : decode cX1_give 16 = .ok (.iload_n 1, 1) := by decide +kernel
theorem dX1_give_17 : decode cX1_give 17 = .ok (.lload_n 2, 1) := by decide +kernel
theorem dX1_give_18 : decode cX1_give 18 = .ok (.invokevirtual 72, 3) := by decide +kernel
theorem dX1_give_21 : decode cX1_give 21 = .ok (.istore 4, 2) := by decide +kernel
theorem dX1_give_23 : decode cX1_give 23 = .ok (.iload 4, 2) := by decide +kernel
theorem dX1_give_25 : decode cX1_give 25 = .ok (.ifCond .ne 7, 3) := by decide +kernel
theorem dX1_give_28 : decode cX1_give 28 = .ok (.iconst 1, 1) := by decide +kernel
theorem dX1_give_29 : decode cX1_give 29 = .ok (.goto 8, 3) := by decide +kernel
theorem dX1_give_32 : decode cX1_give 32 = .ok (.bipush (-10), 2) := by decide +kernel
theorem dX1_give_34 : decode cX1_give 34 = .ok (.iload 4, 2) := by decide +kernel
theorem dX1_give_36 : decode cX1_give 36 = .ok (.isub, 1) := by decide +kernel
theorem dX1_give_37 : decode cX1_give 37 = .ok (.ireturn, 1) := by decide +kernel
set_option maxRecDepth 20000 in
theorem ggX1_sum_X1_isBox : GoodIn wsX1_sum wsX1_isBox := goodIn_r _ [5] (by decide +kernel) (by decide +kernel)
set_option maxRecDepth 20000 in
theorem gX1_sum_X1_isBox : GoodIn wsX1_sum (va_wsS RX1 75 yX1_isBox wsX1_isBox) := goodIn_app (goodIn_of _ (by decide +kernel)) ggX1_sum_X1_isBox
theorem dX1_sum_0 : decode cX1_sum 0 = .ok (.iload_n 1, 1) := by decide +kernel
theorem dX1_sum_1 : decode cX1_sum 1 = .ok (.invokestatic 75, 3) := by decide +kernel
theorem dX1_sum_4 : decode cX1_sum 4 = .ok (.ifCond .eq 12, 3) := by decide +kernel
theorem dX1_sum_7 : decode cX1_sum 7 = .ok (.aload_n 0, 1) := by decide +kernel
theorem dX1_sum_8 : decode cX1_sum 8 = .ok (.getfield 9, 3) := by decide +kernel
theorem dX1_sum_11 : decode cX1_sum 11 = .ok (.iload_n 1, 1) := by decide +kernel
theorem dX1_sum_12 : decode cX1_sum 12 = .ok (.laload, 1) := by decide +kernel
theorem dX1_sum_13 : decode cX1_sum 13 = .ok (.goto 4, 3) := by decide +kernel
theorem dX1_sum_16 : decode cX1_sum 16 = .ok (.lconst 0, 1) := by decide +kernel
theorem dX1_sum_17 : decode cX1_sum 17 = .ok (.lreturn, 1) := by decide +kernel
set_option maxRecDepth 20000 in
theorem ggX1_counted_X1_isBox : GoodIn wsX1_counted wsX1_isBox := goodIn_r _ [5] (by decide +kernel) (by decide +kernel)
set_option maxRecDepth 20000 in
theorem gX1_counted_X1_isBox : GoodIn wsX1_counted (va_wsS RX1 75 yX1_isBox wsX1_isBox) := goodIn_app (goodIn_of _ (by decide +kernel)) ggX1_counted_X1_isBox
theorem dX1_counted_0 : decode cX1_counted 0 = .ok (.iload_n 1, 1) := by decide +kernel
theorem dX1_counted_1 : decode cX1_counted 1 = .ok (.invokestatic 75, 3) := by decide +kernel
theorem dX1_counted_4 : decode cX1_counted 4 = .ok (.ifCond .eq 12, 3) := by decide +kernel
theorem dX1_counted_7 : decode cX1_counted 7 = .ok (.aload_n 0, 1) := by decide +kernel
theorem dX1_counted_8 : decode cX1_counted 8 = .ok (.getfield 13, 3) := by decide +kernel
theorem dX1_counted_11 : decode cX1_counted 11 = .ok (.iload_n 1, 1) := by decide +kernel
theorem dX1_counted_12 : decode cX1_counted 12 = .ok (.iaload, 1) := by decide +kernel
theorem dX1_counted_13 : decode cX1_counted 13 = .ok (.goto 5, 3) := by decide +kernel
theorem dX1_counted_16 : decode cX1_counted 16 = .ok (.bipush (-2), 2) := by decide +kernel
theorem dX1_counted_18 : decode cX1_counted 18 = .ok (.ireturn, 1) := by decide +kernel
set_option maxRecDepth 20000 in
theorem ggX1_failed_X1_isFailedKept : GoodIn wsX1_failed wsX1_isFailedKept := goodIn_r _ [7, 8, 9, 10, 11, 12, 13, 14, 15, 16, 17, 18, 19, 20, 21, 22, 23] (by decide +kernel) (by decide +kernel)
set_option maxRecDepth 20000 in
theorem gX1_failed_X1_isFailedKept : GoodIn wsX1_failed (wsV RX1 78 RX1 yX1_isFailedKept wsX1_isFailedKept) := goodIn_app (goodIn_of _ (by decide +kernel)) ggX1_failed_X1_isFailedKept
theorem dX1_failed_0 : decode cX1_failed 0 = .ok (.iload_n 2, 1) := by decide +kernel
theorem dX1_failed_1 : decode cX1_failed 1 = .ok (.ifCond .eq 11, 3) := by decide +kernel
theorem dX1_failed_4 : decode cX1_failed 4 = .ok (.iload_n 2, 1) := by decide +kernel
theorem dX1_failed_5 : decode cX1_failed 5 = .ok (.iconst 1, 1) := by decide +kernel
theorem dX1_failed_6 : decode cX1_failed 6 = .ok (.if_icmp .eq 6, 3) := by decide +kernel
theorem dX1_failed_9 : decode cX1_failed 9 = .ok (.bipush (-3), 2) := by decide +kernel
theorem dX1_failed_11 : decode cX1_failed 11 = .ok (.ireturn, 1) := by decide +kernel
theorem dX1_failed_12 : decode cX1_failed 12 = .ok (.aload_n 0, 1) := by decide +kernel
theorem dX1_failed_13 : decode cX1_failed 13 = .ok (.iload_n 1, 1) := by decide +kernel
theorem dX1_failed_14 : decode cX1_failed 14 = .ok (.invokevirtual 78, 3) := by decide +kernel
theorem dX1_failed_17 : decode cX1_failed 17 = .ok (.ifCond .ne 5, 3) := by decide +kernel
theorem dX1_failed_20 : decode cX1_failed 20 = .ok (.iconst (-1), 1) := by decide +kernel
theorem dX1_failed_21 : decode cX1_failed 21 = .ok (.ireturn, 1) := by decide +kernel
theorem dX1_failed_22 : decode cX1_failed 22 = .ok (.iload_n 2, 1) := by decide +kernel
theorem dX1_failed_23 : decode cX1_failed 23 = .ok (.ifCond .ne 12, 3) := by decide +kernel
theorem dX1_failed_26 : decode cX1_failed 26 = .ok (.aload_n 0, 1) := by decide +kernel
theorem dX1_failed_27 : decode cX1_failed 27 = .ok (.getfield 29, 3) := by decide +kernel
theorem dX1_failed_30 : decode cX1_failed 30 = .ok (.iload_n 1, 1) := by decide +kernel
theorem dX1_failed_31 : decode cX1_failed 31 = .ok (.iaload, 1) := by decide +kernel
theorem dX1_failed_32 : decode cX1_failed 32 = .ok (.goto 9, 3) := by decide +kernel
theorem dX1_failed_35 : decode cX1_failed 35 = .ok (.aload_n 0, 1) := by decide +kernel
theorem dX1_failed_36 : decode cX1_failed 36 = .ok (.getfield 32, 3) := by decide +kernel
theorem dX1_failed_39 : decode cX1_failed 39 = .ok (.iload_n 1, 1) := by decide +kernel
theorem dX1_failed_40 : decode cX1_failed 40 = .ok (.iaload, 1) := by decide +kernel
theorem dX1_failed_41 : decode cX1_failed 41 = .ok (.ireturn, 1) := by decide +kernel
set_option maxRecDepth 20000 in
theorem ggX1_value_X1_isFailedKept : GoodIn wsX1_value wsX1_isFailedKept := goodIn_r _ [6, 7, 8, 9, 10, 11, 12, 13, 14, 15, 16, 17, 18, 19, 20, 21, 22] (by decide +kernel) (by decide +kernel)
set_option maxRecDepth 20000 in
theorem gX1_value_X1_isFailedKept : GoodIn wsX1_value (wsV RX1 78 RX1 yX1_isFailedKept wsX1_isFailedKept) := goodIn_app (goodIn_of _ (by decide +kernel)) ggX1_value_X1_isFailedKept
theorem dX1_value_0 : decode cX1_value 0 = .ok (.aload_n 0, 1) := by decide +kernel
theorem dX1_value_1 : decode cX1_value 1 = .ok (.iload_n 1, 1) := by decide +kernel
theorem dX1_value_2 : decode cX1_value 2 = .ok (.invokevirtual 78, 3) := by decide +kernel
theorem dX1_value_5 : decode cX1_value 5 = .ok (.ifCond .eq 12, 3) := by decide +kernel
theorem dX1_value_8 : decode cX1_value 8 = .ok (.aload_n 0, 1) := by decide +kernel
theorem dX1_value_9 : decode cX1_value 9 = .ok (.getfield 35, 3) := by decide +kernel
theorem dX1_value_12 : decode cX1_value 12 = .ok (.iload_n 1, 1) := by decide +kernel
theorem dX1_value_13 : decode cX1_value 13 = .ok (.laload, 1) := by decide +kernel
theorem dX1_value_14 : decode cX1_value 14 = .ok (.goto 4, 3) := by decide +kernel
theorem dX1_value_17 : decode cX1_value 17 = .ok (.lconst 0, 1) := by decide +kernel
theorem dX1_value_18 : decode cX1_value 18 = .ok (.lreturn, 1) := by decide +kernel
theorem dX1_count_0 : decode cX1_count 0 = .ok (.iload_n 1, 1) := by decide +kernel
theorem dX1_count_1 : decode cX1_count 1 = .ok (.tableswitch 60 0 4 #[35, 40, 45, 50, 55], 35) := by decide +kernel
theorem dX1_count_36 : decode cX1_count 36 = .ok (.aload_n 0, 1) := by decide +kernel
theorem dX1_count_37 : decode cX1_count 37 = .ok (.getfield 63, 3) := by decide +kernel
theorem dX1_count_40 : decode cX1_count 40 = .ok (.ireturn, 1) := by decide +kernel
theorem dX1_count_41 : decode cX1_count 41 = .ok (.aload_n 0, 1) := by decide +kernel
theorem dX1_count_42 : decode cX1_count 42 = .ok (.getfield 81, 3) := by decide +kernel
theorem dX1_count_45 : decode cX1_count 45 = .ok (.ireturn, 1) := by decide +kernel
theorem dX1_count_46 : decode cX1_count 46 = .ok (.aload_n 0, 1) := by decide +kernel
theorem dX1_count_47 : decode cX1_count 47 = .ok (.getfield 51, 3) := by decide +kernel
theorem dX1_count_50 : decode cX1_count 50 = .ok (.ireturn, 1) := by decide +kernel
theorem dX1_count_51 : decode cX1_count 51 = .ok (.aload_n 0, 1) := by decide +kernel
theorem dX1_count_52 : decode cX1_count 52 = .ok (.getfield 84, 3) := by decide +kernel
theorem dX1_count_55 : decode cX1_count 55 = .ok (.ireturn, 1) := by decide +kernel
theorem dX1_count_56 : decode cX1_count 56 = .ok (.aload_n 0, 1) := by decide +kernel
theorem dX1_count_57 : decode cX1_count 57 = .ok (.getfield 66, 3) := by decide +kernel
theorem dX1_count_60 : decode cX1_count 60 = .ok (.ireturn, 1) := by decide +kernel
theorem dX1_count_61 : decode cX1_count 61 = .ok (.bipush (-3), 2) := by decide +kernel
theorem dX1_count_63 : decode cX1_count 63 = .ok (.ireturn, 1) := by decide +kernel
theorem dX1_isKind_0 : decode cX1_isKind 0 = .ok (.iload_n 0, 1) := by decide +kernel
theorem dX1_isKind_1 : decode cX1_isKind 1 = .ok (.ifCond .lt 13, 3) := by decide +kernel
theorem dX1_isKind_4 : decode cX1_isKind 4 = .ok (.iload_n 0, 1) := by decide +kernel
theorem dX1_isKind_5 : decode cX1_isKind 5 = .ok (.bipush 10, 2) := by decide +kernel
theorem dX1_isKind_7 : decode cX1_isKind 7 = .ok (.if_icmp .ge 7, 3) := by decide +kernel
theorem dX1_isKind_10 : decode cX1_isKind 10 = .ok (.iconst 1, 1) := by decide +kernel
theorem dX1_isKind_11 : decode cX1_isKind 11 = .ok (.goto 4, 3) := by decide +kernel
theorem dX1_isKind_14 : decode cX1_isKind 14 = .ok (.iconst 0, 1) := by decide +kernel
theorem dX1_isKind_15 : decode cX1_isKind 15 = .ok (.ireturn, 1) := by decide +kernel
theorem dX1_isBox_0 : decode cX1_isBox 0 = .ok (.iload_n 0, 1) := by decide +kernel
theorem dX1_isBox_1 : decode cX1_isBox 1 = .ok (.ifCond .lt 13, 3) := by decide +kernel
theorem dX1_isBox_4 : decode cX1_isBox 4 = .ok (.iload_n 0, 1) := by decide +kernel
theorem dX1_isBox_5 : decode cX1_isBox 5 = .ok (.bipush 6, 2) := by decide +kernel
theorem dX1_isBox_7 : decode cX1_isBox 7 = .ok (.if_icmp .ge 7, 3) := by decide +kernel
theorem dX1_isBox_10 : decode cX1_isBox 10 = .ok (.iconst 1, 1) := by decide +kernel
theorem dX1_isBox_11 : decode cX1_isBox 11 = .ok (.goto 4, 3) := by decide +kernel
theorem dX1_isBox_14 : decode cX1_isBox 14 = .ok (.iconst 0, 1) := by decide +kernel
theorem dX1_isBox_15 : decode cX1_isBox 15 = .ok (.ireturn, 1) := by decide +kernel
theorem dX1_isFailedKept_0 : decode cX1_isFailedKept 0 = .ok (.iload_n 1, 1) := by decide +kernel
theorem dX1_isFailedKept_1 : decode cX1_isFailedKept 1 = .ok (.ifCond .lt 21, 3) := by decide +kernel
theorem dX1_isFailedKept_4 : decode cX1_isFailedKept 4 = .ok (.iload_n 1, 1) := by decide +kernel
theorem dX1_isFailedKept_5 : decode cX1_isFailedKept 5 = .ok (.bipush 30, 2) := by decide +kernel
theorem dX1_isFailedKept_7 : decode cX1_isFailedKept 7 = .ok (.if_icmp .ge 15, 3) := by decide +kernel
theorem dX1_isFailedKept_10 : decode cX1_isFailedKept 10 = .ok (.iload_n 1, 1) := by decide +kernel
theorem dX1_isFailedKept_11 : decode cX1_isFailedKept 11 = .ok (.aload_n 0, 1) := by decide +kernel
theorem dX1_isFailedKept_12 : decode cX1_isFailedKept 12 = .ok (.getfield 84, 3) := by decide +kernel
theorem dX1_isFailedKept_15 : decode cX1_isFailedKept 15 = .ok (.if_icmp .ge 7, 3) := by decide +kernel
theorem dX1_isFailedKept_18 : decode cX1_isFailedKept 18 = .ok (.iconst 1, 1) := by decide +kernel
theorem dX1_isFailedKept_19 : decode cX1_isFailedKept 19 = .ok (.goto 4, 3) := by decide +kernel
theorem dX1_isFailedKept_22 : decode cX1_isFailedKept 22 = .ok (.iconst 0, 1) := by decide +kernel
theorem dX1_isFailedKept_23 : decode cX1_isFailedKept 23 = .ok (.ireturn, 1) := by decide +kernel
set_option maxRecDepth 20000 in
theorem ggX1_namesKnown_X1_isBox : GoodIn wsX1_namesKnown wsX1_isBox := goodIn_r _ [4] (by decide +kernel) (by decide +kernel)
set_option maxRecDepth 20000 in
theorem gX1_namesKnown_X1_isBox : GoodIn wsX1_namesKnown (va_wsS RX1 75 yX1_isBox wsX1_isBox) := goodIn_app (goodIn_of _ (by decide +kernel)) ggX1_namesKnown_X1_isBox
set_option maxRecDepth 20000 in
theorem ggX1_namesKnown_X1_isKind : GoodIn wsX1_namesKnown wsX1_isKind := goodIn_r _ [7] (by decide +kernel) (by decide +kernel)
set_option maxRecDepth 20000 in
theorem gX1_namesKnown_X1_isKind : GoodIn wsX1_namesKnown (va_wsS RX1 43 yX1_isKind wsX1_isKind) := goodIn_app (goodIn_of _ (by decide +kernel)) ggX1_namesKnown_X1_isKind
theorem dX1_namesKnown_0 : decode cX1_namesKnown 0 = .ok (.iload_n 0, 1) := by decide +kernel
theorem dX1_namesKnown_1 : decode cX1_namesKnown 1 = .ok (.tableswitch 93 0 11 #[63, 88, 88, 88, 93, 93, 63, 88, 68, 93, 63, 63], 63) := by decide +kernel
theorem dX1_namesKnown_64 : decode cX1_namesKnown 64 = .ok (.iload_n 1, 1) := by decide +kernel
theorem dX1_namesKnown_65 : decode cX1_namesKnown 65 = .ok (.invokestatic 75, 3) := by decide +kernel
theorem dX1_namesKnown_68 : decode cX1_namesKnown 68 = .ok (.ireturn, 1) := by decide +kernel
theorem dX1_namesKnown_69 : decode cX1_namesKnown 69 = .ok (.iload_n 1, 1) := by decide +kernel
theorem dX1_namesKnown_70 : decode cX1_namesKnown 70 = .ok (.invokestatic 75, 3) := by decide +kernel
theorem dX1_namesKnown_73 : decode cX1_namesKnown 73 = .ok (.ifCond .eq 14, 3) := by decide +kernel
theorem dX1_namesKnown_76 : decode cX1_namesKnown 76 = .ok (.iload_n 2, 1) := by decide +kernel
theorem dX1_namesKnown_77 : decode cX1_namesKnown 77 = .ok (.invokestatic 75, 3) := by decide +kernel
theorem dX1_namesKnown_80 : decode cX1_namesKnown 80 = .ok (.ifCond .eq 7, 3) := by decide +kernel
theorem dX1_namesKnown_83 : decode cX1_namesKnown 83 = .ok (.iconst 1, 1) := by decide +kernel
theorem dX1_namesKnown_84 : decode cX1_namesKnown 84 = .ok (.goto 4, 3) := by decide +kernel
theorem dX1_namesKnown_87 : decode cX1_namesKnown 87 = .ok (.iconst 0, 1) := by decide +kernel
theorem dX1_namesKnown_88 : decode cX1_namesKnown 88 = .ok (.ireturn, 1) := by decide +kernel
theorem dX1_namesKnown_89 : decode cX1_namesKnown 89 = .ok (.iload_n 1, 1) := by decide +kernel
theorem dX1_namesKnown_90 : decode cX1_namesKnown 90 = .ok (.invokestatic 43, 3) := by decide +kernel
theorem dX1_namesKnown_93 : decode cX1_namesKnown 93 = .ok (.ireturn, 1) := by decide +kernel
theorem dX1_namesKnown_94 : decode cX1_namesKnown 94 = .ok (.iconst 1, 1) := by decide +kernel
theorem dX1_namesKnown_95 : decode cX1_namesKnown 95 = .ok (.ireturn, 1) := by decide +kernel
set_option maxRecDepth 20000 in
theorem ggX1_handlerOf_X1_isKind : GoodIn wsX1_handlerOf wsX1_isKind := goodIn_r _ [5] (by decide +kernel) (by decide +kernel)
set_option maxRecDepth 20000 in
theorem gX1_handlerOf_X1_isKind : GoodIn wsX1_handlerOf (va_wsS RX1 43 yX1_isKind wsX1_isKind) := goodIn_app (goodIn_of _ (by decide +kernel)) ggX1_handlerOf_X1_isKind
theorem dX1_handlerOf_0 : decode cX1_handlerOf 0 = .ok (.iload_n 1, 1) := by decide +kernel
theorem dX1_handlerOf_1 : decode cX1_handlerOf 1 = .ok (.invokestatic 43, 3) := by decide +kernel
theorem dX1_handlerOf_4 : decode cX1_handlerOf 4 = .ok (.ifCond .eq 12, 3) := by decide +kernel
theorem dX1_handlerOf_7 : decode cX1_handlerOf 7 = .ok (.aload_n 0, 1) := by decide +kernel
theorem dX1_handlerOf_8 : decode cX1_handlerOf 8 = .ok (.getfield 19, 3) := by decide +kernel
theorem dX1_handlerOf_11 : decode cX1_handlerOf 11 = .ok (.iload_n 1, 1) := by decide +kernel
theorem dX1_handlerOf_12 : decode cX1_handlerOf 12 = .ok (.aaload, 1) := by decide +kernel
theorem dX1_handlerOf_13 : decode cX1_handlerOf 13 = .ok (.goto 4, 3) := by decide +kernel
theorem dX1_handlerOf_16 : decode cX1_handlerOf 16 = .ok (.aconst_null, 1) := by decide +kernel
theorem dX1_handlerOf_17 : decode cX1_handlerOf 17 = .ok (.areturn, 1) := by decide +kernel
theorem dX1_enqueue_0 : decode cX1_enqueue 0 = .ok (.aload_n 0, 1) := by decide +kernel
theorem dX1_enqueue_1 : decode cX1_enqueue 1 = .ok (.getfield 63, 3) := by decide +kernel
theorem dX1_enqueue_4 : decode cX1_enqueue 4 = .ok (.bipush 40, 2) := by decide +kernel
theorem dX1_enqueue_6 : decode cX1_enqueue 6 = .ok (.if_icmp .lt 5, 3) := by decide +kernel
theorem dX1_enqueue_9 : decode cX1_enqueue 9 = .ok (.iconst 5, 1) := by decide +kernel
theorem dX1_enqueue_10 : decode cX1_enqueue 10 = .ok (.ireturn, 1) := by decide +kernel
theorem dX1_enqueue_11 : decode cX1_enqueue 11 = .ok (.aload_n 0, 1) := by decide +kernel
theorem dX1_enqueue_12 : decode cX1_enqueue 12 = .ok (.getfield 87, 3) := by decide +kernel
theorem dX1_enqueue_15 : decode cX1_enqueue 15 = .ok (.aload_n 0, 1) := by decide +kernel
theorem dX1_enqueue_16 : decode cX1_enqueue 16 = .ok (.getfield 63, 3) := by decide +kernel
theorem dX1_enqueue_19 : decode cX1_enqueue 19 = .ok (.iadd, 1) := by decide +kernel
theorem dX1_enqueue_20 : decode cX1_enqueue 20 = .ok (.bipush 40, 2) := by decide +kernel
theorem dX1_enqueue_22 : decode cX1_enqueue 22 = .ok (.irem, 1) := by decide +kernel
theorem dX1_enqueue_23 : decode cX1_enqueue 23 = .ok (.istore 4, 2) := by decide +kernel
theorem dX1_enqueue_25 : decode cX1_enqueue 25 = .ok (.iload 4, 2) := by decide +kernel
theorem dX1_enqueue_27 : decode cX1_enqueue 27 = .ok (.ifCond .ge 5, 3) := by decide +kernel
theorem dX1_enqueue_30 : decode cX1_enqueue 30 = .ok (.iconst 5, 1) := by decide +kernel
theorem dX1_enqueue_31 : decode cX1_enqueue 31 = .ok (.ireturn, 1) := by decide +kernel
theorem dX1_enqueue_32 : decode cX1_enqueue 32 = .ok (.aload_n 0, 1) := by decide +kernel
theorem dX1_enqueue_33 : decode cX1_enqueue 33 = .ok (.getfield 23, 3) := by decide +kernel
theorem dX1_enqueue_36 : decode cX1_enqueue 36 = .ok (.iload 4, 2) := by decide +kernel
theorem dX1_enqueue_38 : decode cX1_enqueue 38 = .ok (.iload_n 1, 1) := by decide +kernel
theorem dX1_enqueue_39 : decode cX1_enqueue 39 = .ok (.iastore, 1) := by decide +kernel
theorem dX1_enqueue_40 : decode cX1_enqueue 40 = .ok (.aload_n 0, 1) := by decide +kernel
theorem dX1_enqueue_41 : decode cX1_enqueue 41 = .ok (.getfield 26, 3) := by decide +kernel
theorem dX1_enqueue_44 : decode cX1_enqueue 44 = .ok (.iload 4, 2) := by decide +kernel
theorem dX1_enqueue_46 : decode cX1_enqueue 46 = .ok (.lload_n 2, 1) := by decide +kernel
theorem dX1_enqueue_47 : decode cX1_enqueue 47 = .ok (.lastore, 1) := by decide +kernel
theorem dX1_enqueue_48 : decode cX1_enqueue 48 = .ok (.aload_n 0, 1) := by decide +kernel
theorem dX1_enqueue_49 : decode cX1_enqueue 49 = .ok (.dup, 1) := by decide +kernel
theorem dX1_enqueue_50 : decode cX1_enqueue 50 = .ok (.getfield 63, 3) := by decide +kernel
theorem dX1_enqueue_53 : decode cX1_enqueue 53 = .ok (.iconst 1, 1) := by decide +kernel
theorem dX1_enqueue_54 : decode cX1_enqueue 54 = .ok (.iadd, 1) := by decide +kernel
theorem dX1_enqueue_55 : decode cX1_enqueue 55 = .ok (.putfield 63, 3) := by decide +kernel
theorem dX1_enqueue_58 : decode cX1_enqueue 58 = .ok (.iconst 0, 1) := by decide +kernel
theorem dX1_enqueue_59 : decode cX1_enqueue 59 = .ok (.ireturn, 1) := by decide +kernel
set_option maxRecDepth 20000 in
theorem ggX1_takeFirst_X1_deliver : GoodIn wsX1_takeFirst wsX1_deliver := goodIn_r _ [10, 11, 12, 13, 14, 15, 9, 16, 17, 18, 19, 20, 21, 22, 23, 24, 25, 26, 27, 28, 29, 30, 31, 32, 33, 34, 35, 36, 37, 38, 39, 40, 41, 42, 43, 44, 45, 4, 1, 2, 3, 46, 47, 48, 49, 50, 51, 52, 53, 54, 55, 56, 57, 58, 59, 60, 61, 62, 63, 64, 65, 66, 67, 68, 69, 70, 71, 72, 73, 74, 75, 76, 77, 78, 79, 80, 81, 90, 91, 92, 93, 94, 95, 96, 97, 98, 99, 100, 101, 102, 103, 104, 105, 106, 107, 108, 109, 110, 111, 112] (by decide +kernel) (by decide +kernel)
set_option maxRecDepth 20000 in
theorem gX1_takeFirst_X1_deliver : GoodIn wsX1_takeFirst (wsV RX1 72 RX1 yX1_deliver wsX1_deliver) := goodIn_app (goodIn_of _ (by decide +kernel)) ggX1_takeFirst_X1_deliver
set_option maxRecDepth 20000 in
theorem ggX1_takeFirst_X1_noteFailed : GoodIn wsX1_takeFirst wsX1_noteFailed := goodIn_r _ [85, 86, 87, 88, 89, 90, 91, 92, 93, 94, 95, 96, 97, 98, 99, 100, 101, 102, 103, 104] (by decide +kernel) (by decide +kernel)
set_option maxRecDepth 20000 in
theorem gX1_takeFirst_X1_noteFailed : GoodIn wsX1_takeFirst (wsV RX1 90 RX1 yX1_noteFailed wsX1_noteFailed) := goodIn_app (goodIn_of _ (by decide +kernel)) ggX1_takeFirst_X1_noteFailed
theorem dX1_takeFirst_0 : decode cX1_takeFirst 0 = .ok (.aload_n 0, 1) := by decide +kernel
theorem dX1_takeFirst_1 : decode cX1_takeFirst 1 = .ok (.getfield 87, 3) := by decide +kernel
theorem dX1_takeFirst_4 : decode cX1_takeFirst 4 = .ok (.istore_n 1, 1) := by decide +kernel
theorem dX1_takeFirst_5 : decode cX1_takeFirst 5 = .ok (.iload_n 1, 1) := by decide +kernel
theorem dX1_takeFirst_6 : decode cX1_takeFirst 6 = .ok (.ifCond .lt 9, 3) := by decide +kernel
theorem dX1_takeFirst_9 : decode cX1_takeFirst 9 = .ok (.iload_n 1, 1) := by decide +kernel
theorem dX1_takeFirst_10 : decode cX1_takeFirst 10 = .ok (.bipush 40, 2) := by decide +kernel
theorem dX1_takeFirst_12 : decode cX1_takeFirst 12 = .ok (.if_icmp .lt 4, 3) := by decide +kernel
theorem dX1_takeFirst_15 : decode cX1_takeFirst 15 = .ok (.return_, 1) := by decide +kernel
theorem dX1_takeFirst_16 : decode cX1_takeFirst 16 = .ok (.aload_n 0, 1) := by decide +kernel
theorem dX1_takeFirst_17 : decode cX1_takeFirst 17 = .ok (.getfield 23, 3) := by decide +kernel
theorem dX1_takeFirst_20 : decode cX1_takeFirst 20 = .ok (.iload_n 1, 1) := by decide +kernel
theorem dX1_takeFirst_21 : decode cX1_takeFirst 21 = .ok (.iaload, 1) := by decide +kernel
theorem dX1_takeFirst_22 : decode cX1_takeFirst 22 = .ok (.istore_n 2, 1) := by decide +kernel
theorem dX1_takeFirst_23 : decode cX1_takeFirst 23 = .ok (.aload_n 0, 1) := by decide +kernel
theorem dX1_takeFirst_24 : decode cX1_takeFirst 24 = .ok (.getfield 26, 3) := by decide +kernel
theorem dX1_takeFirst_27 : decode cX1_takeFirst 27 = .ok (.iload_n 1, 1) := by decide +kernel
theorem dX1_takeFirst_28 : decode cX1_takeFirst 28 = .ok (.laload, 1) := by decide +kernel
theorem dX1_takeFirst_29 : decode cX1_takeFirst 29 = .ok (.lstore_n 3, 1) := by decide +kernel
theorem dX1_takeFirst_30 : decode cX1_takeFirst 30 = .ok (.aload_n 0, 1) := by decide +kernel
theorem dX1_takeFirst_31 : decode cX1_takeFirst 31 = .ok (.iload_n 1, 1) := by decide +kernel
theorem dX1_takeFirst_32 : decode cX1_takeFirst 32 = .ok (.iconst 1, 1) := by decide +kernel
theorem dX1_takeFirst_33 : decode cX1_takeFirst 33 = .ok (.iadd, 1) := by decide +kernel
theorem dX1_takeFirst_34 : decode cX1_takeFirst 34 = .ok (.bipush 40, 2) := by decide +kernel
theorem dX1_takeFirst_36 : decode cX1_takeFirst 36 = .ok (.irem, 1) := by decide +kernel
theorem dX1_takeFirst_37 : decode cX1_takeFirst 37 = .ok (.putfield 87, 3) := by decide +kernel
theorem dX1_takeFirst_40 : decode cX1_takeFirst 40 = .ok (.aload_n 0, 1) := by decide +kernel
theorem dX1_takeFirst_41 : decode cX1_takeFirst 41 = .ok (.dup, 1) := by decide +kernel
theorem dX1_takeFirst_42 : decode cX1_takeFirst 42 = .ok (.getfield 63, 3) := by decide +kernel
theorem dX1_takeFirst_45 : decode cX1_takeFirst 45 = .ok (.iconst 1, 1) := by decide +kernel
theorem dX1_takeFirst_46 : decode cX1_takeFirst 46 = .ok (.isub, 1) := by decide +kernel
theorem dX1_takeFirst_47 : decode cX1_takeFirst 47 = .ok (.putfield 63, 3) := by decide +kernel
theorem dX1_takeFirst_50 : decode cX1_takeFirst 50 = .ok (.aload_n 0, 1) := by decide +kernel
theorem dX1_takeFirst_51 : decode cX1_takeFirst 51 = .ok (.dup, 1) := by decide +kernel
theorem dX1_takeFirst_52 : decode cX1_takeFirst 52 = .ok (.getfield 81, 3) := by decide +kernel
theorem dX1_takeFirst_55 : decode cX1_takeFirst 55 = .ok (.iconst 1, 1) := by decide +kernel
theorem dX1_takeFirst_56 : decode cX1_takeFirst 56 = .ok (.iadd, 1) := by decide +kernel
theorem dX1_takeFirst_57 : decode cX1_takeFirst 57 = .ok (.putfield 81, 3) := by decide +kernel
theorem dX1_takeFirst_60 : decode cX1_takeFirst 60 = .ok (.aload_n 0, 1) := by decide +kernel
theorem dX1_takeFirst_61 : decode cX1_takeFirst 61 = .ok (.iload_n 2, 1) := by decide +kernel
theorem dX1_takeFirst_62 : decode cX1_takeFirst 62 = .ok (.lload_n 3, 1) := by decide +kernel
theorem dX1_takeFirst_63 : decode cX1_takeFirst 63 = .ok (.invokevirtual 72, 3) := by decide +kernel
theorem dX1_takeFirst_66 : decode cX1_takeFirst 66 = .ok (.istore 5, 2) := by decide +kernel
theorem dX1_takeFirst_68 : decode cX1_takeFirst 68 = .ok (.iload 5, 2) := by decide +kernel
theorem dX1_takeFirst_70 : decode cX1_takeFirst 70 = .ok (.ifCond .eq 11, 3) := by decide +kernel
theorem dX1_takeFirst_73 : decode cX1_takeFirst 73 = .ok (.aload_n 0, 1) := by decide +kernel
theorem dX1_takeFirst_74 : decode cX1_takeFirst 74 = .ok (.iload_n 2, 1) := by decide +kernel
theorem dX1_takeFirst_75 : decode cX1_takeFirst 75 = .ok (.lload_n 3, 1) := by decide +kernel
theorem dX1_takeFirst_76 : decode cX1_takeFirst 76 = .ok (.iload 5, 2) := by decide +kernel
theorem dX1_takeFirst_78 : decode cX1_takeFirst 78 = .ok (.invokevirtual 90, 3) := by decide +kernel
theorem dX1_takeFirst_81 : decode cX1_takeFirst 81 = .ok (.return_, 1) := by decide +kernel
theorem dX1_noteFailed_0 : decode cX1_noteFailed 0 = .ok (.aload_n 0, 1) := by decide +kernel
theorem dX1_noteFailed_1 : decode cX1_noteFailed 1 = .ok (.getfield 84, 3) := by decide +kernel
theorem dX1_noteFailed_4 : decode cX1_noteFailed 4 = .ok (.istore 5, 2) := by decide +kernel
theorem dX1_noteFailed_6 : decode cX1_noteFailed 6 = .ok (.aload_n 0, 1) := by decide +kernel
theorem dX1_noteFailed_7 : decode cX1_noteFailed 7 = .ok (.dup, 1) := by decide +kernel
theorem dX1_noteFailed_8 : decode cX1_noteFailed 8 = .ok (.getfield 84, 3) := by decide +kernel
theorem dX1_noteFailed_11 : decode cX1_noteFailed 11 = .ok (.iconst 1, 1) := by decide +kernel
theorem dX1_noteFailed_12 : decode cX1_noteFailed 12 = .ok (.iadd, 1) := by decide +kernel
theorem dX1_noteFailed_13 : decode cX1_noteFailed 13 = .ok (.putfield 84, 3) := by decide +kernel
theorem dX1_noteFailed_16 : decode cX1_noteFailed 16 = .ok (.iload 5, 2) := by decide +kernel
theorem dX1_noteFailed_18 : decode cX1_noteFailed 18 = .ok (.ifCond .lt 35, 3) := by decide +kernel
theorem dX1_noteFailed_21 : decode cX1_noteFailed 21 = .ok (.iload 5, 2) := by decide +kernel
theorem dX1_noteFailed_23 : decode cX1_noteFailed 23 = .ok (.bipush 30, 2) := by decide +kernel
theorem dX1_noteFailed_25 : decode cX1_noteFailed 25 = .ok (.if_icmp .ge 28, 3) := by decide +kernel
theorem dX1_noteFailed_28 : decode cX1_noteFailed 28 = .ok (.aload_n 0, 1) := by decide +kernel
theorem dX1_noteFailed_29 : decode cX1_noteFailed 29 = .ok (.getfield 29, 3) := by decide +kernel
theorem dX1_noteFailed_32 : decode cX1_noteFailed 32 = .ok (.iload 5, 2) := by decide +kernel
theorem dX1_noteFailed_34 : decode cX1_noteFailed 34 = .ok (.iload_n 1, 1) := by decide +kernel
theorem dX1_noteFailed_35 : decode cX1_noteFailed 35 = .ok (.iastore, 1) := by decide +kernel
theorem dX1_noteFailed_36 : decode cX1_noteFailed 36 = .ok (.aload_n 0, 1) := by decide +kernel
theorem dX1_noteFailed_37 : decode cX1_noteFailed 37 = .ok (.getfield 32, 3) := by decide +kernel
theorem dX1_noteFailed_40 : decode cX1_noteFailed 40 = .ok (.iload 5, 2) := by decide +kernel
theorem dX1_noteFailed_42 : decode cX1_noteFailed 42 = .ok (.iload 4, 2) := by decide +kernel
theorem dX1_noteFailed_44 : decode cX1_noteFailed 44 = .ok (.iastore, 1) := by decide +kernel
theorem dX1_noteFailed_45 : decode cX1_noteFailed 45 = .ok (.aload_n 0, 1) := by decide +kernel
theorem dX1_noteFailed_46 : decode cX1_noteFailed 46 = .ok (.getfield 35, 3) := by decide +kernel
theorem dX1_noteFailed_49 : decode cX1_noteFailed 49 = .ok (.iload 5, 2) := by decide +kernel
theorem dX1_noteFailed_51 : decode cX1_noteFailed 51 = .ok (.lload_n 2, 1) := by decide +kernel
theorem dX1_noteFailed_52 : decode cX1_noteFailed 52 = .ok (.lastore, 1) := by decide +kernel
theorem dX1_noteFailed_53 : decode cX1_noteFailed 53 = .ok (.return_, 1) := by decide +kernel
set_option maxRecDepth 20000 in
theorem ggX1_deliver_X1_handlerOf : GoodIn wsX1_deliver wsX1_handlerOf := goodIn_r _ [7, 8, 9, 10, 6, 11, 77, 78, 79, 80, 81, 82, 83, 84, 85, 86, 87, 88, 89, 90, 91] (by decide +kernel) (by decide +kernel)
set_option maxRecDepth 20000 in
theorem gX1_deliver_X1_handlerOf : GoodIn wsX1_deliver (wsV RX1 55 RX1 yX1_handlerOf wsX1_handlerOf) := goodIn_app (goodIn_of _ (by decide +kernel)) ggX1_deliver_X1_handlerOf
set_option maxRecDepth 20000 in
theorem ggX1_deliver_X1_begin : GoodIn wsX1_deliver wsX1_begin := goodIn_r _ [15, 1, 16, 17, 18, 6, 19, 20, 21, 22, 23, 24, 25, 26, 27, 28, 29, 30, 31, 32, 33, 34, 35, 36, 37, 38, 39, 40, 12, 13, 14, 3, 4, 5, 7, 8, 9, 10, 11, 41, 42, 43, 44, 45, 46, 47, 48, 49, 50, 51, 52, 53, 54, 55, 56, 57, 58, 59, 60, 61, 62, 63, 64, 65, 66, 67, 68, 69, 70, 71, 72, 73, 74, 75, 76, 92, 93, 94, 95, 96, 97, 98, 99, 77, 78, 79, 80, 81, 82, 83, 84, 85, 86, 87, 88, 89, 90, 91] (by decide +kernel) (by decide +kernel)
set_option maxRecDepth 20000 in
theorem gX1_deliver_X1_begin : GoodIn wsX1_deliver (wsV RX1 97 RX1 yX1_begin wsX1_begin) := goodIn_app (goodIn_of _ (by decide +kernel)) ggX1_deliver_X1_begin
theorem dX1_deliver_0 : decode cX1_deliver 0 = .ok (.aload_n 0, 1) := by decide +kernel
theorem dX1_deliver_1 : decode cX1_deliver 1 = .ok (.iconst 0, 1) := by decide +kernel
theorem dX1_deliver_2 : decode cX1_deliver 2 = .ok (.putfield 94, 3) := by decide +kernel
theorem dX1_deliver_5 : decode cX1_deliver 5 = .ok (.aload_n 0, 1) := by decide +kernel
theorem dX1_deliver_6 : decode cX1_deliver 6 = .ok (.aload_n 0, 1) := by decide +kernel
theorem dX1_deliver_7 : decode cX1_deliver 7 = .ok (.iload_n 1, 1) := by decide +kernel
theorem dX1_deliver_8 : decode cX1_deliver 8 = .ok (.invokevirtual 55, 3) := by decide +kernel
theorem dX1_deliver_11 : decode cX1_deliver 11 = .ok (.lload_n 2, 1) := by decide +kernel
theorem dX1_deliver_12 : decode cX1_deliver 12 = .ok (.iconst 1, 1) := by decide +kernel
theorem dX1_deliver_13 : decode cX1_deliver 13 = .ok (.invokevirtual 97, 3) := by decide +kernel
theorem dX1_deliver_16 : decode cX1_deliver 16 = .ok (.istore 4, 2) := by decide +kernel
theorem dX1_deliver_18 : decode cX1_deliver 18 = .ok (.aload_n 0, 1) := by decide +kernel
theorem dX1_deliver_19 : decode cX1_deliver 19 = .ok (.dup, 1) := by decide +kernel
theorem dX1_deliver_20 : decode cX1_deliver 20 = .ok (.getfield 66, 3) := by decide +kernel
theorem dX1_deliver_23 : decode cX1_deliver 23 = .ok (.aload_n 0, 1) := by decide +kernel
theorem dX1_deliver_24 : decode cX1_deliver 24 = .ok (.getfield 94, 3) := by decide +kernel
theorem dX1_deliver_27 : decode cX1_deliver 27 = .ok (.iadd, 1) := by decide +kernel
theorem dX1_deliver_28 : decode cX1_deliver 28 = .ok (.putfield 66, 3) := by decide +kernel
theorem dX1_deliver_31 : decode cX1_deliver 31 = .ok (.iload 4, 2) := by decide +kernel
theorem dX1_deliver_33 : decode cX1_deliver 33 = .ok (.ireturn, 1) := by decide +kernel
set_option maxRecDepth 20000 in
theorem ggX1_begin_X1_act : GoodIn wsX1_begin wsX1_act := goodIn_r _ [6, 7, 8, 9, 10, 11, 12, 13, 5, 14, 15, 16, 17, 18, 19, 20, 21, 22, 23, 24, 25, 26, 27, 28, 29, 30, 31, 32, 33, 34, 35, 36, 37, 38, 39, 40, 41, 42, 43, 44, 45, 46, 47, 48, 49, 50, 51, 52, 53, 54, 55, 56, 57, 58, 59, 60, 61, 62, 63, 64, 65, 66, 67, 68, 0, 1, 2, 3, 4, 69, 70, 71, 72, 73, 74, 75, 76, 77, 78, 79, 80, 81, 82, 83, 84, 85, 86, 87, 88, 89, 90, 91, 92, 93, 94, 95, 96, 97] (by decide +kernel) (by decide +kernel)
set_option maxRecDepth 20000 in
theorem gX1_begin_X1_act : GoodIn wsX1_begin (wsV RX1 101 RX1 yX1_act wsX1_act) := goodIn_app (goodIn_of _ (by decide +kernel)) ggX1_begin_X1_act
theorem dX1_begin_0 : decode cX1_begin 0 = .ok (.iload 4, 2) := by decide +kernel
theorem dX1_begin_2 : decode cX1_begin 2 = .ok (.bipush 8, 2) := by decide +kernel
theorem dX1_begin_4 : decode cX1_begin 4 = .ok (.if_icmp .gt 12, 3) := by decide +kernel
theorem dX1_begin_7 : decode cX1_begin 7 = .ok (.aload_n 0, 1) := by decide +kernel
theorem dX1_begin_8 : decode cX1_begin 8 = .ok (.getfield 94, 3) := by decide +kernel
theorem dX1_begin_11 : decode cX1_begin 11 = .ok (.bipush 16, 2) := by decide +kernel
theorem dX1_begin_13 : decode cX1_begin 13 = .ok (.if_icmp .lt 6, 3) := by decide +kernel
theorem dX1_begin_16 : decode cX1_begin 16 = .ok (.bipush 6, 2) := by decide +kernel
theorem dX1_begin_18 : decode cX1_begin 18 = .ok (.ireturn, 1) := by decide +kernel
theorem dX1_begin_19 : decode cX1_begin 19 = .ok (.aload_n 0, 1) := by decide +kernel
theorem dX1_begin_20 : decode cX1_begin 20 = .ok (.dup, 1) := by decide +kernel
theorem dX1_begin_21 : decode cX1_begin 21 = .ok (.getfield 94, 3) := by decide +kernel
theorem dX1_begin_24 : decode cX1_begin 24 = .ok (.iconst 1, 1) := by decide +kernel
theorem dX1_begin_25 : decode cX1_begin 25 = .ok (.iadd, 1) := by decide +kernel
theorem dX1_begin_26 : decode cX1_begin 26 = .ok (.putfield 94, 3) := by decide +kernel
theorem dX1_begin_29 : decode cX1_begin 29 = .ok (.aload_n 1, 1) := by decide +kernel
theorem dX1_begin_30 : decode cX1_begin 30 = .ok (.ifnonnull 7, 3) := by decide +kernel
theorem dX1_begin_33 : decode cX1_begin 33 = .ok (.iconst 1, 1) := by decide +kernel
theorem dX1_begin_34 : decode cX1_begin 34 = .ok (.goto 11, 3) := by decide +kernel
theorem dX1_begin_37 : decode cX1_begin 37 = .ok (.aload_n 0, 1) := by decide +kernel
theorem dX1_begin_38 : decode cX1_begin 38 = .ok (.aload_n 1, 1) := by decide +kernel
theorem dX1_begin_39 : decode cX1_begin 39 = .ok (.lload_n 2, 1) := by decide +kernel
theorem dX1_begin_40 : decode cX1_begin 40 = .ok (.iload 4, 2) := by decide +kernel
theorem dX1_begin_42 : decode cX1_begin 42 = .ok (.invokevirtual 101, 3) := by decide +kernel
theorem dX1_begin_45 : decode cX1_begin 45 = .ok (.ireturn, 1) := by decide +kernel
set_option maxRecDepth 20000 in
theorem ggX1_act_X1_keep : GoodIn wsX1_act wsX1_keep := goodIn_r _ [9, 10, 11, 12, 13, 8, 14, 83, 84, 85, 86, 87, 88, 89, 90, 91, 92, 93, 94, 95, 96, 97] (by decide +kernel) (by decide +kernel)
set_option maxRecDepth 20000 in
theorem gX1_act_X1_keep : GoodIn wsX1_act (wsV RX1 110 RX1 yX1_keep wsX1_keep) := goodIn_app (goodIn_of _ (by decide +kernel)) ggX1_act_X1_keep
set_option maxRecDepth 20000 in
theorem ggX1_act_X1_enqueue : GoodIn wsX1_act wsX1_enqueue := goodIn_r _ [18, 19, 20, 21, 22, 83, 84, 85, 86, 87, 88, 89, 90, 91, 92, 93, 94, 95, 96, 97] (by decide +kernel) (by decide +kernel)
set_option maxRecDepth 20000 in
theorem gX1_act_X1_enqueue : GoodIn wsX1_act (wsV RX1 59 RX1 yX1_enqueue wsX1_enqueue) := goodIn_app (goodIn_of _ (by decide +kernel)) ggX1_act_X1_enqueue
set_option maxRecDepth 20000 in
theorem ggX1_act_X1_begin : GoodIn wsX1_act wsX1_begin := goodIn_r _ [64, 65, 66, 67, 68, 8, 0, 1, 2, 3, 4, 5, 6, 7, 9, 10, 11, 12, 13, 14, 15, 16, 17, 18, 19, 20, 21, 22, 23, 24, 25, 26, 27, 28, 29, 30, 31, 32, 33, 34, 35, 36, 37, 38, 39, 40, 41, 42, 43, 44, 45, 46, 47, 48, 49, 50, 51, 52, 53, 54, 55, 56, 57, 58, 59, 60, 61, 62, 63, 69, 70, 71, 72, 73, 74, 75, 76, 77, 78, 79, 80, 81, 82, 83, 84, 85, 86, 87, 88, 89, 90, 91, 92, 93, 94, 95, 96, 97] (by decide +kernel) (by decide +kernel)
set_option maxRecDepth 20000 in
theorem gX1_act_X1_begin : GoodIn wsX1_act (wsV RX1 97 RX1 yX1_begin wsX1_begin) := goodIn_app (goodIn_of _ (by decide +kernel)) ggX1_act_X1_begin
set_option maxRecDepth 20000 in
theorem ggX1_act_X1_handlerOf : GoodIn wsX1_act wsX1_handlerOf := goodIn_r _ [29, 30, 31, 32, 8, 33, 83, 84, 85, 86, 87, 88, 89, 90, 91, 92, 93, 94, 95, 96, 97] (by decide +kernel) (by decide +kernel)
set_option maxRecDepth 20000 in
theorem gX1_act_X1_handlerOf : GoodIn wsX1_act (wsV RX1 55 RX1 yX1_handlerOf wsX1_handlerOf) := goodIn_app (goodIn_of _ (by decide +kernel)) ggX1_act_X1_handlerOf
set_option maxRecDepth 20000 in
theorem ggX1_act_X1_sift : GoodIn wsX1_act wsX1_sift := goodIn_r _ [74, 3, 2, 45, 23, 24, 25, 8, 0, 1, 4, 5, 6, 7, 9, 10, 11, 12, 13, 14, 15, 16, 17, 18, 19, 20, 21, 22, 26, 27, 28, 29, 30, 31, 32, 33, 34, 35, 36, 37, 38, 39, 40, 41, 42, 43, 44, 46, 47, 48, 49, 50, 51, 52, 53, 54, 55, 56, 57, 58, 59, 60, 61, 62, 63, 64, 65, 66, 67, 68, 69, 70, 71, 72, 73, 75, 76, 77, 78, 79, 80, 81, 82, 83, 84, 85, 86, 87, 88, 89, 90, 91, 92, 93, 94, 95, 96, 97] (by decide +kernel) (by decide +kernel)
set_option maxRecDepth 20000 in
theorem gX1_act_X1_sift : GoodIn wsX1_act (wsV RX1 121 RX1 yX1_sift wsX1_sift) := goodIn_app (goodIn_of _ (by decide +kernel)) ggX1_act_X1_sift
set_option maxRecDepth 20000 in
theorem ggX1_act_X1_limit : GoodIn wsX1_act wsX1_limit := goodIn_r _ [71, 72, 53, 45, 23, 24, 25, 8, 0, 1, 2, 3, 4, 5, 6, 7, 9, 10, 11, 12, 13, 14, 15, 16, 17, 18, 19, 20, 21, 22, 26, 27, 28, 29, 30, 31, 32, 33, 34, 35, 36, 37, 38, 39, 40, 41, 42, 43, 44, 46, 47, 48, 49, 50, 51, 52, 54, 55, 56, 57, 58, 59, 60, 61, 62, 63, 64, 65, 66, 67, 68, 69, 70, 73, 74, 75, 76, 77, 78, 79, 80, 81, 82, 83, 84, 85, 86, 87, 88, 89, 90, 91, 92, 93, 94, 95, 96, 97] (by decide +kernel) (by decide +kernel)
set_option maxRecDepth 20000 in
theorem gX1_act_X1_limit : GoodIn wsX1_act (wsV RX1 124 RX1 yX1_limit wsX1_limit) := goodIn_app (goodIn_of _ (by decide +kernel)) ggX1_act_X1_limit
set_option maxRecDepth 20000 in
theorem ggX1_act_X1_once : GoodIn wsX1_act wsX1_once := goodIn_r _ [43, 2, 44, 30, 45, 5, 6, 7, 8, 9, 10, 11, 12, 13, 14, 31, 32, 33, 75, 76, 77, 78, 79, 80, 81, 82, 83, 84, 85, 86, 87, 88, 89, 90, 91, 92, 93, 94, 95, 96, 97] (by decide +kernel) (by decide +kernel)
set_option maxRecDepth 20000 in
theorem gX1_act_X1_once : GoodIn wsX1_act (wsV RX1 127 RX1 yX1_once wsX1_once) := goodIn_app (goodIn_of _ (by decide +kernel)) ggX1_act_X1_once
set_option maxRecDepth 20000 in
theorem ggX1_act_X1_both : GoodIn wsX1_act wsX1_both := goodIn_r _ [69, 45, 4, 23, 24, 25, 8, 0, 1, 2, 3, 5, 6, 7, 9, 10, 11, 12, 13, 14, 15, 16, 17, 18, 19, 20, 21, 22, 26, 27, 28, 29, 30, 31, 32, 33, 34, 35, 36, 37, 38, 39, 40, 41, 42, 43, 44, 46, 47, 48, 49, 50, 51, 52, 53, 54, 55, 56, 57, 58, 59, 60, 61, 62, 63, 64, 65, 66, 67, 68, 70, 71, 72, 73, 74, 75, 76, 77, 78, 79, 80, 81, 82, 83, 84, 85, 86, 87, 88, 89, 90, 91, 92, 93, 94, 95, 96, 97] (by decide +kernel) (by decide +kernel)
set_option maxRecDepth 20000 in
theorem gX1_act_X1_both : GoodIn wsX1_act (wsV RX1 131 RX1 yX1_both wsX1_both) := goodIn_app (goodIn_of _ (by decide +kernel)) ggX1_act_X1_both
set_option maxRecDepth 20000 in
theorem ggX1_act_X1_share : GoodIn wsX1_act wsX1_share := goodIn_r _ [52, 3, 2, 53, 5, 6, 7, 8, 9, 10, 11, 12, 13, 14, 75, 76, 77, 78, 79, 80, 81, 82, 83, 84, 85, 86, 87, 88, 89, 90, 91, 92, 93, 94, 95, 96, 97] (by decide +kernel) (by decide +kernel)
set_option maxRecDepth 20000 in
theorem gX1_act_X1_share : GoodIn wsX1_act (wsV RX1 134 RX1 yX1_share wsX1_share) := goodIn_app (goodIn_of _ (by decide +kernel)) ggX1_act_X1_share
set_option maxRecDepth 20000 in
theorem ggX1_act_X1_keepFailure : GoodIn wsX1_act wsX1_keepFailure := goodIn_r _ [70, 45, 2, 23, 24, 25, 8, 5, 6, 7, 9, 10, 11, 12, 13, 14, 0, 1, 3, 4, 15, 16, 17, 18, 19, 20, 21, 22, 26, 27, 28, 29, 30, 31, 32, 33, 34, 35, 36, 37, 38, 39, 40, 41, 42, 43, 44, 46, 47, 48, 49, 50, 51, 52, 53, 54, 55, 56, 57, 58, 59, 60, 61, 62, 63, 64, 65, 66, 67, 68, 69, 71, 72, 73, 74, 75, 76, 77, 78, 79, 80, 81, 82, 83, 84, 85, 86, 87, 88, 89, 90, 91, 92, 93, 94, 95, 96, 97] (by decide +kernel) (by decide +kernel)
set_option maxRecDepth 20000 in
theorem gX1_act_X1_keepFailure : GoodIn wsX1_act (wsV RX1 137 RX1 yX1_keepFailure wsX1_keepFailure) := goodIn_app (goodIn_of _ (by decide +kernel)) ggX1_act_X1_keepFailure
set_option maxRecDepth 20000 in
theorem ggX1_act_X1_mean : GoodIn wsX1_act wsX1_mean := goodIn_r _ [73, 2, 45, 11, 10, 5, 6, 7, 8, 9, 12, 13, 14, 23, 24, 25, 0, 1, 3, 4, 15, 16, 17, 18, 19, 20, 21, 22, 26, 27, 28, 29, 30, 31, 32, 33, 34, 35, 36, 37, 38, 39, 40, 41, 42, 43, 44, 46, 47, 48, 49, 50, 51, 52, 53, 54, 55, 56, 57, 58, 59, 60, 61, 62, 63, 64, 65, 66, 67, 68, 69, 70, 71, 72, 74, 75, 76, 77, 78, 79, 80, 81, 82, 83, 84, 85, 86, 87, 88, 89, 90, 91, 92, 93, 94, 95, 96, 97] (by decide +kernel) (by decide +kernel)
set_option maxRecDepth 20000 in
theorem gX1_act_X1_mean : GoodIn wsX1_act (wsV RX1 140 RX1 yX1_mean wsX1_mean) := goodIn_app (goodIn_of _ (by decide +kernel)) ggX1_act_X1_mean
set_option maxRecDepth 20000 in
theorem ggX1_act_X1_keepAndSend : GoodIn wsX1_act wsX1_keepAndSend := goodIn_r _ [63, 2, 53, 3, 5, 6, 7, 8, 9, 10, 11, 12, 13, 14, 15, 16, 17, 18, 19, 20, 21, 22, 75, 76, 77, 78, 79, 80, 81, 82, 83, 84, 85, 86, 87, 88, 89, 90, 91, 92, 93, 94, 95, 96, 97] (by decide +kernel) (by decide +kernel)
set_option maxRecDepth 20000 in
theorem gX1_act_X1_keepAndSend : GoodIn wsX1_act (wsV RX1 143 RX1 yX1_keepAndSend wsX1_keepAndSend) := goodIn_app (goodIn_of _ (by decide +kernel)) ggX1_act_X1_keepAndSend
theorem dX1_act_0 : decode cX1_act 0 = .ok (.aload_n 1, 1) := by decide +kernel
theorem dX1_act_1 : decode cX1_act 1 = .ok (.getfield 104, 3) := by decide +kernel
theorem dX1_act_4 : decode cX1_act 4 = .ok (.tableswitch 198 0 11 #[64, 74, 89, 108, 131, 140, 149, 156, 165, 172, 180, 189], 64) := by decide +kernel
theorem dX1_act_68 : decode cX1_act 68 = .ok (.aload_n 0, 1) := by decide +kernel
theorem dX1_act_69 : decode cX1_act 69 = .ok (.aload_n 1, 1) := by decide +kernel
theorem dX1_act_70 : decode cX1_act 70 = .ok (.getfield 107, 3) := by decide +kernel
theorem dX1_act_73 : decode cX1_act 73 = .ok (.lload_n 2, 1) := by decide +kernel
theorem dX1_act_74 : decode cX1_act 74 = .ok (.invokevirtual 110, 3) := by decide +kernel
theorem dX1_act_77 : decode cX1_act 77 = .ok (.ireturn, 1) := by decide +kernel
theorem dX1_act_78 : decode cX1_act 78 = .ok (.aload_n 0, 1) := by decide +kernel
theorem dX1_act_79 : decode cX1_act 79 = .ok (.aload_n 1, 1) := by decide +kernel
theorem dX1_act_80 : decode cX1_act 80 = .ok (.getfield 107, 3) := by decide +kernel
theorem dX1_act_83 : decode cX1_act 83 = .ok (.lload_n 2, 1) := by decide +kernel
theorem dX1_act_84 : decode cX1_act 84 = .ok (.aload_n 1, 1) := by decide +kernel
theorem dX1_act_85 : decode cX1_act 85 = .ok (.getfield 113, 3) := by decide +kernel
theorem dX1_act_88 : decode cX1_act 88 = .ok (.ladd, 1) := by decide +kernel
theorem dX1_act_89 : decode cX1_act 89 = .ok (.invokevirtual 59, 3) := by decide +kernel
theorem dX1_act_92 : decode cX1_act 92 = .ok (.ireturn, 1) := by decide +kernel
theorem dX1_act_93 : decode cX1_act 93 = .ok (.aload_n 0, 1) := by decide +kernel
theorem dX1_act_94 : decode cX1_act 94 = .ok (.aload_n 1, 1) := by decide +kernel
theorem dX1_act_95 : decode cX1_act 95 = .ok (.getfield 117, 3) := by decide +kernel
theorem dX1_act_98 : decode cX1_act 98 = .ok (.lload_n 2, 1) := by decide +kernel
theorem dX1_act_99 : decode cX1_act 99 = .ok (.aload_n 1, 1) := by decide +kernel
theorem dX1_act_100 : decode cX1_act 100 = .ok (.getfield 113, 3) := by decide +kernel
theorem dX1_act_103 : decode cX1_act 103 = .ok (.ladd, 1) := by decide +kernel
theorem dX1_act_104 : decode cX1_act 104 = .ok (.iload 4, 2) := by decide +kernel
theorem dX1_act_106 : decode cX1_act 106 = .ok (.iconst 1, 1) := by decide +kernel
theorem dX1_act_107 : decode cX1_act 107 = .ok (.iadd, 1) := by decide +kernel
theorem dX1_act_108 : decode cX1_act 108 = .ok (.invokevirtual 97, 3) := by decide +kernel
theorem dX1_act_111 : decode cX1_act 111 = .ok (.ireturn, 1) := by decide +kernel
theorem dX1_act_112 : decode cX1_act 112 = .ok (.aload_n 0, 1) := by decide +kernel
theorem dX1_act_113 : decode cX1_act 113 = .ok (.aload_n 0, 1) := by decide +kernel
theorem dX1_act_114 : decode cX1_act 114 = .ok (.aload_n 1, 1) := by decide +kernel
theorem dX1_act_115 : decode cX1_act 115 = .ok (.getfield 107, 3) := by decide +kernel
theorem dX1_act_118 : decode cX1_act 118 = .ok (.invokevirtual 55, 3) := by decide +kernel
theorem dX1_act_121 : decode cX1_act 121 = .ok (.lload_n 2, 1) := by decide +kernel
theorem dX1_act_122 : decode cX1_act 122 = .ok (.aload_n 1, 1) := by decide +kernel
theorem dX1_act_123 : decode cX1_act 123 = .ok (.getfield 113, 3) := by decide +kernel
theorem dX1_act_126 : decode cX1_act 126 = .ok (.ladd, 1) := by decide +kernel
theorem dX1_act_127 : decode cX1_act 127 = .ok (.iload 4, 2) := by decide +kernel
theorem dX1_act_129 : decode cX1_act 129 = .ok (.iconst 1, 1) := by decide +kernel
theorem dX1_act_130 : decode cX1_act 130 = .ok (.iadd, 1) := by decide +kernel
theorem dX1_act_131 : decode cX1_act 131 = .ok (.invokevirtual 97, 3) := by decide +kernel
theorem dX1_act_134 : decode cX1_act 134 = .ok (.ireturn, 1) := by decide +kernel
theorem dX1_act_135 : decode cX1_act 135 = .ok (.aload_n 0, 1) := by decide +kernel
theorem dX1_act_136 : decode cX1_act 136 = .ok (.aload_n 1, 1) := by decide +kernel
theorem dX1_act_137 : decode cX1_act 137 = .ok (.lload_n 2, 1) := by decide +kernel
theorem dX1_act_138 : decode cX1_act 138 = .ok (.iload 4, 2) := by decide +kernel
theorem dX1_act_140 : decode cX1_act 140 = .ok (.invokevirtual 121, 3) := by decide +kernel
theorem dX1_act_143 : decode cX1_act 143 = .ok (.ireturn, 1) := by decide +kernel
theorem dX1_act_144 : decode cX1_act 144 = .ok (.aload_n 0, 1) := by decide +kernel
theorem dX1_act_145 : decode cX1_act 145 = .ok (.aload_n 1, 1) := by decide +kernel
theorem dX1_act_146 : decode cX1_act 146 = .ok (.lload_n 2, 1) := by decide +kernel
theorem dX1_act_147 : decode cX1_act 147 = .ok (.iload 4, 2) := by decide +kernel
theorem dX1_act_149 : decode cX1_act 149 = .ok (.invokevirtual 124, 3) := by decide +kernel
theorem dX1_act_152 : decode cX1_act 152 = .ok (.ireturn, 1) := by decide +kernel
theorem dX1_act_153 : decode cX1_act 153 = .ok (.aload_n 0, 1) := by decide +kernel
theorem dX1_act_154 : decode cX1_act 154 = .ok (.aload_n 1, 1) := by decide +kernel
theorem dX1_act_155 : decode cX1_act 155 = .ok (.lload_n 2, 1) := by decide +kernel
theorem dX1_act_156 : decode cX1_act 156 = .ok (.invokevirtual 127, 3) := by decide +kernel
theorem dX1_act_159 : decode cX1_act 159 = .ok (.ireturn, 1) := by decide +kernel
theorem dX1_act_160 : decode cX1_act 160 = .ok (.aload_n 0, 1) := by decide +kernel
theorem dX1_act_161 : decode cX1_act 161 = .ok (.aload_n 1, 1) := by decide +kernel
theorem dX1_act_162 : decode cX1_act 162 = .ok (.lload_n 2, 1) := by decide +kernel
theorem dX1_act_163 : decode cX1_act 163 = .ok (.iload 4, 2) := by decide +kernel
theorem dX1_act_165 : decode cX1_act 165 = .ok (.invokevirtual 131, 3) := by decide +kernel
theorem dX1_act_168 : decode cX1_act 168 = .ok (.ireturn, 1) := by decide +kernel
theorem dX1_act_169 : decode cX1_act 169 = .ok (.aload_n 0, 1) := by decide +kernel
theorem dX1_act_170 : decode cX1_act 170 = .ok (.aload_n 1, 1) := by decide +kernel
theorem dX1_act_171 : decode cX1_act 171 = .ok (.lload_n 2, 1) := by decide +kernel
theorem dX1_act_172 : decode cX1_act 172 = .ok (.invokevirtual 134, 3) := by decide +kernel
theorem dX1_act_175 : decode cX1_act 175 = .ok (.ireturn, 1) := by decide +kernel
theorem dX1_act_176 : decode cX1_act 176 = .ok (.aload_n 0, 1) := by decide +kernel
theorem dX1_act_177 : decode cX1_act 177 = .ok (.lload_n 2, 1) := by decide +kernel
theorem dX1_act_178 : decode cX1_act 178 = .ok (.l2i, 1) := by decide +kernel
theorem dX1_act_179 : decode cX1_act 179 = .ok (.lconst 1, 1) := by decide +kernel
theorem dX1_act_180 : decode cX1_act 180 = .ok (.invokevirtual 110, 3) := by decide +kernel
theorem dX1_act_183 : decode cX1_act 183 = .ok (.ireturn, 1) := by decide +kernel
theorem dX1_act_184 : decode cX1_act 184 = .ok (.aload_n 0, 1) := by decide +kernel
theorem dX1_act_185 : decode cX1_act 185 = .ok (.aload_n 1, 1) := by decide +kernel
theorem dX1_act_186 : decode cX1_act 186 = .ok (.lload_n 2, 1) := by decide +kernel
theorem dX1_act_187 : decode cX1_act 187 = .ok (.iload 4, 2) := by decide +kernel
theorem dX1_act_189 : decode cX1_act 189 = .ok (.invokevirtual 137, 3) := by decide +kernel
theorem dX1_act_192 : decode cX1_act 192 = .ok (.ireturn, 1) := by decide +kernel
theorem dX1_act_193 : decode cX1_act 193 = .ok (.aload_n 0, 1) := by decide +kernel
theorem dX1_act_194 : decode cX1_act 194 = .ok (.aload_n 1, 1) := by decide +kernel
theorem dX1_act_195 : decode cX1_act 195 = .ok (.lload_n 2, 1) := by decide +kernel
theorem dX1_act_196 : decode cX1_act 196 = .ok (.iload 4, 2) := by decide +kernel
theorem dX1_act_198 : decode cX1_act 198 = .ok (.invokevirtual 140, 3) := by decide +kernel
theorem dX1_act_201 : decode cX1_act 201 = .ok (.ireturn, 1) := by decide +kernel
theorem dX1_act_202 : decode cX1_act 202 = .ok (.aload_n 0, 1) := by decide +kernel
theorem dX1_act_203 : decode cX1_act 203 = .ok (.aload_n 1, 1) := by decide +kernel
theorem dX1_act_204 : decode cX1_act 204 = .ok (.lload_n 2, 1) := by decide +kernel
theorem dX1_act_205 : decode cX1_act 205 = .ok (.invokevirtual 143, 3) := by decide +kernel
theorem dX1_act_208 : decode cX1_act 208 = .ok (.ireturn, 1) := by decide +kernel
set_option maxRecDepth 20000 in
theorem ggX1_keep_X1_isBox : GoodIn wsX1_keep wsX1_isBox := goodIn_r _ [6] (by decide +kernel) (by decide +kernel)
set_option maxRecDepth 20000 in
theorem gX1_keep_X1_isBox : GoodIn wsX1_keep (va_wsS RX1 75 yX1_isBox wsX1_isBox) := goodIn_app (goodIn_of _ (by decide +kernel)) ggX1_keep_X1_isBox
theorem dX1_keep_0 : decode cX1_keep 0 = .ok (.iload_n 1, 1) := by decide +kernel
theorem dX1_keep_1 : decode cX1_keep 1 = .ok (.invokestatic 75, 3) := by decide +kernel
theorem dX1_keep_4 : decode cX1_keep 4 = .ok (.ifCond .ne 5, 3) := by decide +kernel
theorem dX1_keep_7 : decode cX1_keep 7 = .ok (.iconst 3, 1) := by decide +kernel
theorem dX1_keep_8 : decode cX1_keep 8 = .ok (.ireturn, 1) := by decide +kernel
theorem dX1_keep_9 : decode cX1_keep 9 = .ok (.aload_n 0, 1) := by decide +kernel
theorem dX1_keep_10 : decode cX1_keep 10 = .ok (.getfield 9, 3) := by decide +kernel
theorem dX1_keep_13 : decode cX1_keep 13 = .ok (.iload_n 1, 1) := by decide +kernel
theorem dX1_keep_14 : decode cX1_keep 14 = .ok (.dup2, 1) := by decide +kernel
theorem dX1_keep_15 : decode cX1_keep 15 = .ok (.laload, 1) := by decide +kernel
theorem dX1_keep_16 : decode cX1_keep 16 = .ok (.lload_n 2, 1) := by decide +kernel
theorem dX1_keep_17 : decode cX1_keep 17 = .ok (.ladd, 1) := by decide +kernel
theorem dX1_keep_18 : decode cX1_keep 18 = .ok (.lastore, 1) := by decide +kernel
theorem dX1_keep_19 : decode cX1_keep 19 = .ok (.aload_n 0, 1) := by decide +kernel
theorem dX1_keep_20 : decode cX1_keep 20 = .ok (.getfield 13, 3) := by decide +kernel
theorem dX1_keep_23 : decode cX1_keep 23 = .ok (.iload_n 1, 1) := by decide +kernel
theorem dX1_keep_24 : decode cX1_keep 24 = .ok (.dup2, 1) := by decide +kernel
theorem dX1_keep_25 : decode cX1_keep 25 = .ok (.iaload, 1) := by decide +kernel
theorem dX1_keep_26 : decode cX1_keep 26 = .ok (.iconst 1, 1) := by decide +kernel
theorem dX1_keep_27 : decode cX1_keep 27 = .ok (.iadd, 1) := by decide +kernel
theorem dX1_keep_28 : decode cX1_keep 28 = .ok (.iastore, 1) := by decide +kernel
theorem dX1_keep_29 : decode cX1_keep 29 = .ok (.iconst 0, 1) := by decide +kernel
theorem dX1_keep_30 : decode cX1_keep 30 = .ok (.ireturn, 1) := by decide +kernel
set_option maxRecDepth 20000 in
theorem ggX1_sift_X1_begin : GoodIn wsX1_sift wsX1_begin := goodIn_r _ [65, 66, 67, 68, 69, 7, 8, 9, 2, 1, 10, 11, 12, 13, 14, 15, 16, 17, 18, 19, 20, 21, 22, 23, 24, 25, 26, 27, 4, 5, 6, 28, 29, 30, 31, 32, 33, 34, 35, 36, 37, 38, 39, 40, 41, 42, 43, 44, 45, 46, 3, 47, 48, 49, 50, 51, 52, 53, 54, 55, 56, 57, 58, 59, 60, 61, 62, 63, 64, 70, 71, 72, 73, 74, 0, 75, 76, 77, 78, 79, 80, 81, 82, 83, 84, 85, 86, 87, 88, 89, 90, 91, 92, 93, 94, 95, 96, 97] (by decide +kernel) (by decide +kernel)
set_option maxRecDepth 20000 in
theorem gX1_sift_X1_begin : GoodIn wsX1_sift (wsV RX1 97 RX1 yX1_begin wsX1_begin) := goodIn_app (goodIn_of _ (by decide +kernel)) ggX1_sift_X1_begin
theorem dX1_sift_0 : decode cX1_sift 0 = .ok (.aload_n 1, 1) := by decide +kernel
theorem dX1_sift_1 : decode cX1_sift 1 = .ok (.getfield 113, 3) := by decide +kernel
theorem dX1_sift_4 : decode cX1_sift 4 = .ok (.lconst 0, 1) := by decide +kernel
theorem dX1_sift_5 : decode cX1_sift 5 = .ok (.lcmp, 1) := by decide +kernel
theorem dX1_sift_6 : decode cX1_sift 6 = .ok (.ifCond .ne 5, 3) := by decide +kernel
theorem dX1_sift_9 : decode cX1_sift 9 = .ok (.iconst 2, 1) := by decide +kernel
theorem dX1_sift_10 : decode cX1_sift 10 = .ok (.ireturn, 1) := by decide +kernel
theorem dX1_sift_11 : decode cX1_sift 11 = .ok (.lload_n 2, 1) := by decide +kernel
theorem dX1_sift_12 : decode cX1_sift 12 = .ok (.aload_n 1, 1) := by decide +kernel
theorem dX1_sift_13 : decode cX1_sift 13 = .ok (.getfield 113, 3) := by decide +kernel
theorem dX1_sift_16 : decode cX1_sift 16 = .ok (.lrem, 1) := by decide +kernel
theorem dX1_sift_17 : decode cX1_sift 17 = .ok (.aload_n 1, 1) := by decide +kernel
theorem dX1_sift_18 : decode cX1_sift 18 = .ok (.getfield 107, 3) := by decide +kernel
theorem dX1_sift_21 : decode cX1_sift 21 = .ok (.i2l, 1) := by decide +kernel
theorem dX1_sift_22 : decode cX1_sift 22 = .ok (.lcmp, 1) := by decide +kernel
theorem dX1_sift_23 : decode cX1_sift 23 = .ok (.ifCond .ne 19, 3) := by decide +kernel
theorem dX1_sift_26 : decode cX1_sift 26 = .ok (.aload_n 0, 1) := by decide +kernel
theorem dX1_sift_27 : decode cX1_sift 27 = .ok (.aload_n 1, 1) := by decide +kernel
theorem dX1_sift_28 : decode cX1_sift 28 = .ok (.getfield 146, 3) := by decide +kernel
theorem dX1_sift_31 : decode cX1_sift 31 = .ok (.lload_n 2, 1) := by decide +kernel
theorem dX1_sift_32 : decode cX1_sift 32 = .ok (.iload 4, 2) := by decide +kernel
theorem dX1_sift_34 : decode cX1_sift 34 = .ok (.iconst 1, 1) := by decide +kernel
theorem dX1_sift_35 : decode cX1_sift 35 = .ok (.iadd, 1) := by decide +kernel
theorem dX1_sift_36 : decode cX1_sift 36 = .ok (.invokevirtual 97, 3) := by decide +kernel
theorem dX1_sift_39 : decode cX1_sift 39 = .ok (.goto 4, 3) := by decide +kernel
theorem dX1_sift_42 : decode cX1_sift 42 = .ok (.iconst 0, 1) := by decide +kernel
theorem dX1_sift_43 : decode cX1_sift 43 = .ok (.ireturn, 1) := by decide +kernel
set_option maxRecDepth 20000 in
theorem ggX1_limit_X1_begin : GoodIn wsX1_limit wsX1_begin := goodIn_r _ [66, 67, 68, 69, 70, 7, 8, 9, 10, 11, 12, 13, 14, 15, 16, 17, 18, 19, 20, 21, 22, 23, 24, 25, 26, 27, 28, 29, 4, 5, 6, 30, 31, 32, 33, 34, 35, 36, 37, 38, 39, 40, 41, 42, 43, 44, 45, 46, 47, 48, 3, 49, 50, 51, 52, 53, 54, 55, 2, 56, 57, 58, 59, 60, 61, 62, 63, 64, 65, 71, 72, 0, 1, 73, 74, 75, 76, 77, 78, 79, 80, 81, 82, 83, 84, 85, 86, 87, 88, 89, 90, 91, 92, 93, 94, 95, 96, 97] (by decide +kernel) (by decide +kernel)
set_option maxRecDepth 20000 in
theorem gX1_limit_X1_begin : GoodIn wsX1_limit (wsV RX1 97 RX1 yX1_begin wsX1_begin) := goodIn_app (goodIn_of _ (by decide +kernel)) ggX1_limit_X1_begin
theorem dX1_limit_0 : decode cX1_limit 0 = .ok (.aload_n 1, 1) := by decide +kernel
theorem dX1_limit_1 : decode cX1_limit 1 = .ok (.getfield 149, 3) := by decide +kernel
theorem dX1_limit_4 : decode cX1_limit 4 = .ok (.aload_n 1, 1) := by decide +kernel
theorem dX1_limit_5 : decode cX1_limit 5 = .ok (.getfield 152, 3) := by decide +kernel
theorem dX1_limit_8 : decode cX1_limit 8 = .ok (.if_icmp .lt 5, 3) := by decide +kernel
theorem dX1_limit_11 : decode cX1_limit 11 = .ok (.iconst 4, 1) := by decide +kernel
theorem dX1_limit_12 : decode cX1_limit 12 = .ok (.ireturn, 1) := by decide +kernel
theorem dX1_limit_13 : decode cX1_limit 13 = .ok (.aload_n 1, 1) := by decide +kernel
theorem dX1_limit_14 : decode cX1_limit 14 = .ok (.dup, 1) := by decide +kernel
theorem dX1_limit_15 : decode cX1_limit 15 = .ok (.getfield 149, 3) := by decide +kernel
theorem dX1_limit_18 : decode cX1_limit 18 = .ok (.iconst 1, 1) := by decide +kernel
theorem dX1_limit_19 : decode cX1_limit 19 = .ok (.iadd, 1) := by decide +kernel
theorem dX1_limit_20 : decode cX1_limit 20 = .ok (.putfield 149, 3) := by decide +kernel
theorem dX1_limit_23 : decode cX1_limit 23 = .ok (.aload_n 0, 1) := by decide +kernel
theorem dX1_limit_24 : decode cX1_limit 24 = .ok (.aload_n 1, 1) := by decide +kernel
theorem dX1_limit_25 : decode cX1_limit 25 = .ok (.getfield 146, 3) := by decide +kernel
theorem dX1_limit_28 : decode cX1_limit 28 = .ok (.lload_n 2, 1) := by decide +kernel
theorem dX1_limit_29 : decode cX1_limit 29 = .ok (.iload 4, 2) := by decide +kernel
theorem dX1_limit_31 : decode cX1_limit 31 = .ok (.iconst 1, 1) := by decide +kernel
theorem dX1_limit_32 : decode cX1_limit 32 = .ok (.iadd, 1) := by decide +kernel
theorem dX1_limit_33 : decode cX1_limit 33 = .ok (.invokevirtual 97, 3) := by decide +kernel
theorem dX1_limit_36 : decode cX1_limit 36 = .ok (.ireturn, 1) := by decide +kernel
set_option maxRecDepth 20000 in
theorem ggX1_once_X1_keep : GoodIn wsX1_once wsX1_keep := goodIn_r _ [9, 10, 11, 12, 13, 8, 14, 26, 27, 28, 29, 30, 31, 32, 33, 34, 35, 36, 37, 38, 39, 40] (by decide +kernel) (by decide +kernel)
set_option maxRecDepth 20000 in
theorem gX1_once_X1_keep : GoodIn wsX1_once (wsV RX1 110 RX1 yX1_keep wsX1_keep) := goodIn_app (goodIn_of _ (by decide +kernel)) ggX1_once_X1_keep
set_option maxRecDepth 20000 in
theorem ggX1_once_X1_isKind : GoodIn wsX1_once wsX1_isKind := goodIn_r _ [17] (by decide +kernel) (by decide +kernel)
set_option maxRecDepth 20000 in
theorem gX1_once_X1_isKind : GoodIn wsX1_once (va_wsS RX1 43 yX1_isKind wsX1_isKind) := goodIn_app (goodIn_of _ (by decide +kernel)) ggX1_once_X1_isKind
theorem dX1_once_0 : decode cX1_once 0 = .ok (.aload_n 0, 1) := by decide +kernel
theorem dX1_once_1 : decode cX1_once 1 = .ok (.aload_n 1, 1) := by decide +kernel
theorem dX1_once_2 : decode cX1_once 2 = .ok (.getfield 107, 3) := by decide +kernel
theorem dX1_once_5 : decode cX1_once 5 = .ok (.lload_n 2, 1) := by decide +kernel
theorem dX1_once_6 : decode cX1_once 6 = .ok (.invokevirtual 110, 3) := by decide +kernel
theorem dX1_once_9 : decode cX1_once 9 = .ok (.istore 4, 2) := by decide +kernel
theorem dX1_once_11 : decode cX1_once 11 = .ok (.iload 4, 2) := by decide +kernel
theorem dX1_once_13 : decode cX1_once 13 = .ok (.ifCond .ne 26, 3) := by decide +kernel
theorem dX1_once_16 : decode cX1_once 16 = .ok (.aload_n 1, 1) := by decide +kernel
theorem dX1_once_17 : decode cX1_once 17 = .ok (.getfield 155, 3) := by decide +kernel
theorem dX1_once_20 : decode cX1_once 20 = .ok (.invokestatic 43, 3) := by decide +kernel
theorem dX1_once_23 : decode cX1_once 23 = .ok (.ifCond .eq 16, 3) := by decide +kernel
theorem dX1_once_26 : decode cX1_once 26 = .ok (.aload_n 0, 1) := by decide +kernel
theorem dX1_once_27 : decode cX1_once 27 = .ok (.getfield 19, 3) := by decide +kernel
theorem dX1_once_30 : decode cX1_once 30 = .ok (.aload_n 1, 1) := by decide +kernel
theorem dX1_once_31 : decode cX1_once 31 = .ok (.getfield 155, 3) := by decide +kernel
theorem dX1_once_34 : decode cX1_once 34 = .ok (.aload_n 1, 1) := by decide +kernel
theorem dX1_once_35 : decode cX1_once 35 = .ok (.getfield 146, 3) := by decide +kernel
theorem dX1_once_38 : decode cX1_once 38 = .ok (.aastore, 1) := by decide +kernel
theorem dX1_once_39 : decode cX1_once 39 = .ok (.iload 4, 2) := by decide +kernel
theorem dX1_once_41 : decode cX1_once 41 = .ok (.ireturn, 1) := by decide +kernel
set_option maxRecDepth 20000 in
theorem ggX1_both_X1_begin : GoodIn wsX1_both wsX1_begin := goodIn_r _ [65, 66, 67, 68, 69, 6, 7, 8, 9, 10, 2, 11, 12, 13, 14, 15, 16, 17, 18, 19, 20, 21, 22, 23, 24, 25, 26, 27, 3, 4, 5, 28, 29, 30, 31, 32, 33, 34, 35, 36, 37, 38, 39, 40, 41, 42, 43, 44, 45, 46, 1, 47, 48, 49, 50, 51, 52, 53, 54, 55, 56, 57, 58, 59, 60, 61, 62, 63, 64, 0, 70, 71, 72, 73, 74, 75, 76, 77, 78, 79, 80, 81, 82, 83, 84, 85, 86, 87, 88, 89, 90, 91, 92, 93, 94, 95, 96, 97] (by decide +kernel) (by decide +kernel)
set_option maxRecDepth 20000 in
theorem gX1_both_X1_begin : GoodIn wsX1_both (wsV RX1 97 RX1 yX1_begin wsX1_begin) := goodIn_app (goodIn_of _ (by decide +kernel)) ggX1_both_X1_begin
theorem dX1_both_0 : decode cX1_both 0 = .ok (.aload_n 0, 1) := by decide +kernel
theorem dX1_both_1 : decode cX1_both 1 = .ok (.aload_n 1, 1) := by decide +kernel
theorem dX1_both_2 : decode cX1_both 2 = .ok (.getfield 146, 3) := by decide +kernel
theorem dX1_both_5 : decode cX1_both 5 = .ok (.lload_n 2, 1) := by decide +kernel
theorem dX1_both_6 : decode cX1_both 6 = .ok (.iload 4, 2) := by decide +kernel
theorem dX1_both_8 : decode cX1_both 8 = .ok (.iconst 1, 1) := by decide +kernel
theorem dX1_both_9 : decode cX1_both 9 = .ok (.iadd, 1) := by decide +kernel
theorem dX1_both_10 : decode cX1_both 10 = .ok (.invokevirtual 97, 3) := by decide +kernel
theorem dX1_both_13 : decode cX1_both 13 = .ok (.istore 5, 2) := by decide +kernel
theorem dX1_both_15 : decode cX1_both 15 = .ok (.iload 5, 2) := by decide +kernel
theorem dX1_both_17 : decode cX1_both 17 = .ok (.ifCond .ne 19, 3) := by decide +kernel
theorem dX1_both_20 : decode cX1_both 20 = .ok (.aload_n 0, 1) := by decide +kernel
theorem dX1_both_21 : decode cX1_both 21 = .ok (.aload_n 1, 1) := by decide +kernel
theorem dX1_both_22 : decode cX1_both 22 = .ok (.getfield 117, 3) := by decide +kernel
theorem dX1_both_25 : decode cX1_both 25 = .ok (.lload_n 2, 1) := by decide +kernel
theorem dX1_both_26 : decode cX1_both 26 = .ok (.iload 4, 2) := by decide +kernel
theorem dX1_both_28 : decode cX1_both 28 = .ok (.iconst 1, 1) := by decide +kernel
theorem dX1_both_29 : decode cX1_both 29 = .ok (.iadd, 1) := by decide +kernel
theorem dX1_both_30 : decode cX1_both 30 = .ok (.invokevirtual 97, 3) := by decide +kernel
theorem dX1_both_33 : decode cX1_both 33 = .ok (.goto 5, 3) := by decide +kernel
theorem dX1_both_36 : decode cX1_both 36 = .ok (.iload 5, 2) := by decide +kernel
theorem dX1_both_38 : decode cX1_both 38 = .ok (.ireturn, 1) := by decide +kernel
set_option maxRecDepth 20000 in
theorem ggX1_share_X1_keep : GoodIn wsX1_share wsX1_keep := goodIn_r _ [8, 9, 10, 11, 12, 7, 13, 22, 23, 24, 25, 26, 27, 28, 29, 30, 31, 32, 33, 34, 35, 36] (by decide +kernel) (by decide +kernel)
set_option maxRecDepth 20000 in
theorem gX1_share_X1_keep : GoodIn wsX1_share (wsV RX1 110 RX1 yX1_keep wsX1_keep) := goodIn_app (goodIn_of _ (by decide +kernel)) ggX1_share_X1_keep
theorem dX1_share_0 : decode cX1_share 0 = .ok (.aload_n 1, 1) := by decide +kernel
theorem dX1_share_1 : decode cX1_share 1 = .ok (.getfield 113, 3) := by decide +kernel
theorem dX1_share_4 : decode cX1_share 4 = .ok (.lconst 0, 1) := by decide +kernel
theorem dX1_share_5 : decode cX1_share 5 = .ok (.lcmp, 1) := by decide +kernel
theorem dX1_share_6 : decode cX1_share 6 = .ok (.ifCond .ne 5, 3) := by decide +kernel
theorem dX1_share_9 : decode cX1_share 9 = .ok (.iconst 2, 1) := by decide +kernel
theorem dX1_share_10 : decode cX1_share 10 = .ok (.ireturn, 1) := by decide +kernel
theorem dX1_share_11 : decode cX1_share 11 = .ok (.aload_n 0, 1) := by decide +kernel
theorem dX1_share_12 : decode cX1_share 12 = .ok (.aload_n 1, 1) := by decide +kernel
theorem dX1_share_13 : decode cX1_share 13 = .ok (.getfield 107, 3) := by decide +kernel
theorem dX1_share_16 : decode cX1_share 16 = .ok (.lload_n 2, 1) := by decide +kernel
theorem dX1_share_17 : decode cX1_share 17 = .ok (.aload_n 1, 1) := by decide +kernel
theorem dX1_share_18 : decode cX1_share 18 = .ok (.getfield 113, 3) := by decide +kernel
theorem dX1_share_21 : decode cX1_share 21 = .ok (.ldiv, 1) := by decide +kernel
theorem dX1_share_22 : decode cX1_share 22 = .ok (.invokevirtual 110, 3) := by decide +kernel
theorem dX1_share_25 : decode cX1_share 25 = .ok (.istore 4, 2) := by decide +kernel
theorem dX1_share_27 : decode cX1_share 27 = .ok (.iload 4, 2) := by decide +kernel
theorem dX1_share_29 : decode cX1_share 29 = .ok (.ifCond .ne 20, 3) := by decide +kernel
theorem dX1_share_32 : decode cX1_share 32 = .ok (.aload_n 0, 1) := by decide +kernel
theorem dX1_share_33 : decode cX1_share 33 = .ok (.aload_n 1, 1) := by decide +kernel
theorem dX1_share_34 : decode cX1_share 34 = .ok (.getfield 152, 3) := by decide +kernel
theorem dX1_share_37 : decode cX1_share 37 = .ok (.lload_n 2, 1) := by decide +kernel
theorem dX1_share_38 : decode cX1_share 38 = .ok (.aload_n 1, 1) := by decide +kernel
theorem dX1_share_39 : decode cX1_share 39 = .ok (.getfield 113, 3) := by decide +kernel
theorem dX1_share_42 : decode cX1_share 42 = .ok (.lrem, 1) := by decide +kernel
theorem dX1_share_43 : decode cX1_share 43 = .ok (.invokevirtual 110, 3) := by decide +kernel
theorem dX1_share_46 : decode cX1_share 46 = .ok (.goto 5, 3) := by decide +kernel
theorem dX1_share_49 : decode cX1_share 49 = .ok (.iload 4, 2) := by decide +kernel
theorem dX1_share_51 : decode cX1_share 51 = .ok (.ireturn, 1) := by decide +kernel
set_option maxRecDepth 20000 in
theorem ggX1_keepFailure_X1_begin : GoodIn wsX1_keepFailure wsX1_begin := goodIn_r _ [65, 66, 67, 68, 69, 6, 16, 17, 2, 18, 19, 7, 8, 9, 10, 11, 12, 13, 14, 15, 20, 21, 22, 23, 24, 25, 26, 27, 3, 4, 5, 28, 29, 30, 31, 32, 33, 34, 35, 36, 37, 38, 39, 40, 41, 42, 43, 44, 45, 46, 1, 47, 48, 49, 50, 51, 52, 53, 54, 55, 56, 57, 58, 59, 60, 61, 62, 63, 64, 70, 0, 71, 72, 73, 74, 75, 76, 77, 78, 79, 80, 81, 82, 83, 84, 85, 86, 87, 88, 89, 90, 91, 92, 93, 94, 95, 96, 97] (by decide +kernel) (by decide +kernel)
set_option maxRecDepth 20000 in
theorem gX1_keepFailure_X1_begin : GoodIn wsX1_keepFailure (wsV RX1 97 RX1 yX1_begin wsX1_begin) := goodIn_app (goodIn_of _ (by decide +kernel)) ggX1_keepFailure_X1_begin
set_option maxRecDepth 20000 in
theorem ggX1_keepFailure_X1_keep : GoodIn wsX1_keepFailure wsX1_keep := goodIn_r _ [10, 11, 12, 13, 14, 6, 15, 83, 84, 85, 86, 87, 88, 89, 90, 91, 92, 93, 94, 95, 96, 97] (by decide +kernel) (by decide +kernel)
set_option maxRecDepth 20000 in
theorem gX1_keepFailure_X1_keep : GoodIn wsX1_keepFailure (wsV RX1 110 RX1 yX1_keep wsX1_keep) := goodIn_app (goodIn_of _ (by decide +kernel)) ggX1_keepFailure_X1_keep
theorem dX1_keepFailure_0 : decode cX1_keepFailure 0 = .ok (.aload_n 0, 1) := by decide +kernel
theorem dX1_keepFailure_1 : decode cX1_keepFailure 1 = .ok (.aload_n 1, 1) := by decide +kernel
theorem dX1_keepFailure_2 : decode cX1_keepFailure 2 = .ok (.getfield 146, 3) := by decide +kernel
theorem dX1_keepFailure_5 : decode cX1_keepFailure 5 = .ok (.lload_n 2, 1) := by decide +kernel
theorem dX1_keepFailure_6 : decode cX1_keepFailure 6 = .ok (.iload 4, 2) := by decide +kernel
theorem dX1_keepFailure_8 : decode cX1_keepFailure 8 = .ok (.iconst 1, 1) := by decide +kernel
theorem dX1_keepFailure_9 : decode cX1_keepFailure 9 = .ok (.iadd, 1) := by decide +kernel
theorem dX1_keepFailure_10 : decode cX1_keepFailure 10 = .ok (.invokevirtual 97, 3) := by decide +kernel
theorem dX1_keepFailure_13 : decode cX1_keepFailure 13 = .ok (.istore 5, 2) := by decide +kernel
theorem dX1_keepFailure_15 : decode cX1_keepFailure 15 = .ok (.iload 5, 2) := by decide +kernel
theorem dX1_keepFailure_17 : decode cX1_keepFailure 17 = .ok (.ifCond .eq 10, 3) := by decide +kernel
theorem dX1_keepFailure_20 : decode cX1_keepFailure 20 = .ok (.iload 5, 2) := by decide +kernel
theorem dX1_keepFailure_22 : decode cX1_keepFailure 22 = .ok (.bipush 6, 2) := by decide +kernel
theorem dX1_keepFailure_24 : decode cX1_keepFailure 24 = .ok (.if_icmp .ne 8, 3) := by decide +kernel
theorem dX1_keepFailure_27 : decode cX1_keepFailure 27 = .ok (.iload 5, 2) := by decide +kernel
theorem dX1_keepFailure_29 : decode cX1_keepFailure 29 = .ok (.goto 14, 3) := by decide +kernel
theorem dX1_keepFailure_32 : decode cX1_keepFailure 32 = .ok (.aload_n 0, 1) := by decide +kernel
theorem dX1_keepFailure_33 : decode cX1_keepFailure 33 = .ok (.aload_n 1, 1) := by decide +kernel
theorem dX1_keepFailure_34 : decode cX1_keepFailure 34 = .ok (.getfield 107, 3) := by decide +kernel
theorem dX1_keepFailure_37 : decode cX1_keepFailure 37 = .ok (.iload 5, 2) := by decide +kernel
theorem dX1_keepFailure_39 : decode cX1_keepFailure 39 = .ok (.i2l, 1) := by decide +kernel
theorem dX1_keepFailure_40 : decode cX1_keepFailure 40 = .ok (.invokevirtual 110, 3) := by decide +kernel
theorem dX1_keepFailure_43 : decode cX1_keepFailure 43 = .ok (.ireturn, 1) := by decide +kernel
set_option maxRecDepth 20000 in
theorem ggX1_mean_X1_keep : GoodIn wsX1_mean wsX1_keep := goodIn_r _ [9, 4, 3, 10, 11, 8, 12, 83, 84, 85, 86, 87, 88, 89, 90, 91, 92, 93, 94, 95, 96, 97] (by decide +kernel) (by decide +kernel)
set_option maxRecDepth 20000 in
theorem gX1_mean_X1_keep : GoodIn wsX1_mean (wsV RX1 110 RX1 yX1_keep wsX1_keep) := goodIn_app (goodIn_of _ (by decide +kernel)) ggX1_mean_X1_keep
set_option maxRecDepth 20000 in
theorem ggX1_mean_X1_isBox : GoodIn wsX1_mean wsX1_isBox := goodIn_r _ [12] (by decide +kernel) (by decide +kernel)
set_option maxRecDepth 20000 in
theorem gX1_mean_X1_isBox : GoodIn wsX1_mean (va_wsS RX1 75 yX1_isBox wsX1_isBox) := goodIn_app (goodIn_of _ (by decide +kernel)) ggX1_mean_X1_isBox
set_option maxRecDepth 20000 in
theorem ggX1_mean_X1_begin : GoodIn wsX1_mean wsX1_begin := goodIn_r _ [65, 66, 67, 68, 69, 8, 16, 17, 1, 18, 19, 5, 6, 7, 9, 4, 3, 10, 11, 12, 20, 21, 22, 23, 24, 25, 26, 27, 13, 14, 15, 28, 29, 30, 31, 32, 33, 34, 35, 36, 37, 38, 39, 40, 41, 42, 43, 44, 45, 46, 2, 47, 48, 49, 50, 51, 52, 53, 54, 55, 56, 57, 58, 59, 60, 61, 62, 63, 64, 70, 71, 72, 73, 0, 74, 75, 76, 77, 78, 79, 80, 81, 82, 83, 84, 85, 86, 87, 88, 89, 90, 91, 92, 93, 94, 95, 96, 97] (by decide +kernel) (by decide +kernel)
set_option maxRecDepth 20000 in
theorem gX1_mean_X1_begin : GoodIn wsX1_mean (wsV RX1 97 RX1 yX1_begin wsX1_begin) := goodIn_app (goodIn_of _ (by decide +kernel)) ggX1_mean_X1_begin
theorem dX1_mean_0 : decode cX1_mean 0 = .ok (.aload_n 1, 1) := by decide +kernel
theorem dX1_mean_1 : decode cX1_mean 1 = .ok (.getfield 107, 3) := by decide +kernel
theorem dX1_mean_4 : decode cX1_mean 4 = .ok (.istore 5, 2) := by decide +kernel
theorem dX1_mean_6 : decode cX1_mean 6 = .ok (.aload_n 0, 1) := by decide +kernel
theorem dX1_mean_7 : decode cX1_mean 7 = .ok (.iload 5, 2) := by decide +kernel
theorem dX1_mean_9 : decode cX1_mean 9 = .ok (.lload_n 2, 1) := by decide +kernel
theorem dX1_mean_10 : decode cX1_mean 10 = .ok (.invokevirtual 110, 3) := by decide +kernel
theorem dX1_mean_13 : decode cX1_mean 13 = .ok (.istore 6, 2) := by decide +kernel
theorem dX1_mean_15 : decode cX1_mean 15 = .ok (.iload 6, 2) := by decide +kernel
theorem dX1_mean_17 : decode cX1_mean 17 = .ok (.ifCond .ne 10, 3) := by decide +kernel
theorem dX1_mean_20 : decode cX1_mean 20 = .ok (.aload_n 1, 1) := by decide +kernel
theorem dX1_mean_21 : decode cX1_mean 21 = .ok (.getfield 146, 3) := by decide +kernel
theorem dX1_mean_24 : decode cX1_mean 24 = .ok (.ifnonnull 6, 3) := by decide +kernel
theorem dX1_mean_27 : decode cX1_mean 27 = .ok (.iload 6, 2) := by decide +kernel
theorem dX1_mean_29 : decode cX1_mean 29 = .ok (.ireturn, 1) := by decide +kernel
theorem dX1_mean_30 : decode cX1_mean 30 = .ok (.iload 5, 2) := by decide +kernel
theorem dX1_mean_32 : decode cX1_mean 32 = .ok (.invokestatic 75, 3) := by decide +kernel
theorem dX1_mean_35 : decode cX1_mean 35 = .ok (.ifCond .eq 13, 3) := by decide +kernel
theorem dX1_mean_38 : decode cX1_mean 38 = .ok (.aload_n 0, 1) := by decide +kernel
theorem dX1_mean_39 : decode cX1_mean 39 = .ok (.getfield 13, 3) := by decide +kernel
theorem dX1_mean_42 : decode cX1_mean 42 = .ok (.iload 5, 2) := by decide +kernel
theorem dX1_mean_44 : decode cX1_mean 44 = .ok (.iaload, 1) := by decide +kernel
theorem dX1_mean_45 : decode cX1_mean 45 = .ok (.ifCond .ne 5, 3) := by decide +kernel
theorem dX1_mean_48 : decode cX1_mean 48 = .ok (.iconst 2, 1) := by decide +kernel
theorem dX1_mean_49 : decode cX1_mean 49 = .ok (.ireturn, 1) := by decide +kernel
theorem dX1_mean_50 : decode cX1_mean 50 = .ok (.aload_n 0, 1) := by decide +kernel
theorem dX1_mean_51 : decode cX1_mean 51 = .ok (.aload_n 1, 1) := by decide +kernel
theorem dX1_mean_52 : decode cX1_mean 52 = .ok (.getfield 146, 3) := by decide +kernel
theorem dX1_mean_55 : decode cX1_mean 55 = .ok (.aload_n 0, 1) := by decide +kernel
theorem dX1_mean_56 : decode cX1_mean 56 = .ok (.getfield 9, 3) := by decide +kernel
theorem dX1_mean_59 : decode cX1_mean 59 = .ok (.iload 5, 2) := by decide +kernel
theorem dX1_mean_61 : decode cX1_mean 61 = .ok (.laload, 1) := by decide +kernel
theorem dX1_mean_62 : decode cX1_mean 62 = .ok (.aload_n 0, 1) := by decide +kernel
theorem dX1_mean_63 : decode cX1_mean 63 = .ok (.getfield 13, 3) := by decide +kernel
theorem dX1_mean_66 : decode cX1_mean 66 = .ok (.iload 5, 2) := by decide +kernel
theorem dX1_mean_68 : decode cX1_mean 68 = .ok (.iaload, 1) := by decide +kernel
theorem dX1_mean_69 : decode cX1_mean 69 = .ok (.i2l, 1) := by decide +kernel
theorem dX1_mean_70 : decode cX1_mean 70 = .ok (.ldiv, 1) := by decide +kernel
theorem dX1_mean_71 : decode cX1_mean 71 = .ok (.iload 4, 2) := by decide +kernel
theorem dX1_mean_73 : decode cX1_mean 73 = .ok (.iconst 1, 1) := by decide +kernel
theorem dX1_mean_74 : decode cX1_mean 74 = .ok (.iadd, 1) := by decide +kernel
theorem dX1_mean_75 : decode cX1_mean 75 = .ok (.invokevirtual 97, 3) := by decide +kernel
theorem dX1_mean_78 : decode cX1_mean 78 = .ok (.ireturn, 1) := by decide +kernel
set_option maxRecDepth 20000 in
theorem ggX1_keepAndSend_X1_keep : GoodIn wsX1_keepAndSend wsX1_keep := goodIn_r _ [8, 9, 10, 11, 12, 7, 13, 30, 31, 32, 33, 34, 35, 36, 37, 38, 39, 40, 41, 42, 43, 44] (by decide +kernel) (by decide +kernel)
set_option maxRecDepth 20000 in
theorem gX1_keepAndSend_X1_keep : GoodIn wsX1_keepAndSend (wsV RX1 110 RX1 yX1_keep wsX1_keep) := goodIn_app (goodIn_of _ (by decide +kernel)) ggX1_keepAndSend_X1_keep
set_option maxRecDepth 20000 in
theorem ggX1_keepAndSend_X1_enqueue : GoodIn wsX1_keepAndSend wsX1_enqueue := goodIn_r _ [17, 18, 19, 20, 21, 30, 31, 32, 33, 34, 35, 36, 37, 38, 39, 40, 41, 42, 43, 44] (by decide +kernel) (by decide +kernel)
set_option maxRecDepth 20000 in
theorem gX1_keepAndSend_X1_enqueue : GoodIn wsX1_keepAndSend (wsV RX1 59 RX1 yX1_enqueue wsX1_enqueue) := goodIn_app (goodIn_of _ (by decide +kernel)) ggX1_keepAndSend_X1_enqueue
theorem dX1_keepAndSend_0 : decode cX1_keepAndSend 0 = .ok (.aload_n 0, 1) := by decide +kernel
theorem dX1_keepAndSend_1 : decode cX1_keepAndSend 1 = .ok (.aload_n 1, 1) := by decide +kernel
theorem dX1_keepAndSend_2 : decode cX1_keepAndSend 2 = .ok (.getfield 107, 3) := by decide +kernel
theorem dX1_keepAndSend_5 : decode cX1_keepAndSend 5 = .ok (.lload_n 2, 1) := by decide +kernel
theorem dX1_keepAndSend_6 : decode cX1_keepAndSend 6 = .ok (.invokevirtual 110, 3) := by decide +kernel
theorem dX1_keepAndSend_9 : decode cX1_keepAndSend 9 = .ok (.istore 4, 2) := by decide +kernel
theorem dX1_keepAndSend_11 : decode cX1_keepAndSend 11 = .ok (.iload 4, 2) := by decide +kernel
theorem dX1_keepAndSend_13 : decode cX1_keepAndSend 13 = .ok (.ifCond .ne 26, 3) := by decide +kernel
theorem dX1_keepAndSend_16 : decode cX1_keepAndSend 16 = .ok (.lload_n 2, 1) := by decide +kernel
theorem dX1_keepAndSend_17 : decode cX1_keepAndSend 17 = .ok (.lconst 1, 1) := by decide +kernel
theorem dX1_keepAndSend_18 : decode cX1_keepAndSend 18 = .ok (.lcmp, 1) := by decide +kernel
theorem dX1_keepAndSend_19 : decode cX1_keepAndSend 19 = .ok (.ifCond .le 20, 3) := by decide +kernel
theorem dX1_keepAndSend_22 : decode cX1_keepAndSend 22 = .ok (.aload_n 0, 1) := by decide +kernel
theorem dX1_keepAndSend_23 : decode cX1_keepAndSend 23 = .ok (.aload_n 1, 1) := by decide +kernel
theorem dX1_keepAndSend_24 : decode cX1_keepAndSend 24 = .ok (.getfield 152, 3) := by decide +kernel
theorem dX1_keepAndSend_27 : decode cX1_keepAndSend 27 = .ok (.lload_n 2, 1) := by decide +kernel
theorem dX1_keepAndSend_28 : decode cX1_keepAndSend 28 = .ok (.aload_n 1, 1) := by decide +kernel
theorem dX1_keepAndSend_29 : decode cX1_keepAndSend 29 = .ok (.getfield 113, 3) := by decide +kernel
theorem dX1_keepAndSend_32 : decode cX1_keepAndSend 32 = .ok (.ladd, 1) := by decide +kernel
theorem dX1_keepAndSend_33 : decode cX1_keepAndSend 33 = .ok (.invokevirtual 59, 3) := by decide +kernel
theorem dX1_keepAndSend_36 : decode cX1_keepAndSend 36 = .ok (.goto 5, 3) := by decide +kernel
theorem dX1_keepAndSend_39 : decode cX1_keepAndSend 39 = .ok (.iload 4, 2) := by decide +kernel
theorem dX1_keepAndSend_41 : decode cX1_keepAndSend 41 = .ok (.ireturn, 1) := by decide +kernel
