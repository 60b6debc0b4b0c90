theorem dX11_expected_0 : decode cX11_expected 0 = .ok (.iconst 0, 1) := by decide +kernel
theorem dX11_expected_1 : decode cX11_expected 1 = .ok (.istore_n 2, 1) := by decide +kernel
theorem dX11_expected_2 : decode cX11_expected 2 = .ok (.iconst 0, 1) := by decide +kernel
theorem dX11_expected_3 : decode cX11_expected 3 = .ok (.istore_n 3, 1) := by decide +kernel
theorem dX11_expected_4 : decode cX11_expected 4 = .ok (.iload_n 3, 1) := by decide +kernel
theorem dX11_expected_5 : decode cX11_expected 5 = .ok (.iconst 3, 1) := by decide +kernel
theorem dX11_expected_6 : decode cX11_expected 6 = .ok (.if_icmp .ge 61, 3) := by decide +kernel
theorem dX11_expected_9 : decode cX11_expected 9 = .ok (.aload_n 0, 1) := by decide +kernel
theorem dX11_expected_10 : decode cX11_expected 10 = .ok (.getfield 65, 3) := by decide +kernel
theorem dX11_expected_13 : decode cX11_expected 13 = .ok (.ifCond .ge 21, 3) := by decide +kernel
theorem dX11_expected_16 : decode cX11_expected 16 = .ok (.aload_n 0, 1) := by decide +kernel
theorem dX11_expected_17 : decode cX11_expected 17 = .ok (.getfield 16, 3) := by decide +kernel
theorem dX11_expected_20 : decode cX11_expected 20 = .ok (.iconst 3, 1) := by decide +kernel
theorem dX11_expected_21 : decode cX11_expected 21 = .ok (.aload_n 0, 1) := by decide +kernel
theorem dX11_expected_22 : decode cX11_expected 22 = .ok (.getfield 44, 3) := by decide +kernel
theorem dX11_expected_25 : decode cX11_expected 25 = .ok (.iload_n 1, 1) := by decide +kernel
theorem dX11_expected_26 : decode cX11_expected 26 = .ok (.iaload, 1) := by decide +kernel
theorem dX11_expected_27 : decode cX11_expected 27 = .ok (.imul, 1) := by decide +kernel
theorem dX11_expected_28 : decode cX11_expected 28 = .ok (.iload_n 3, 1) := by decide +kernel
theorem dX11_expected_29 : decode cX11_expected 29 = .ok (.iadd, 1) := by decide +kernel
theorem dX11_expected_30 : decode cX11_expected 30 = .ok (.iaload, 1) := by decide +kernel
theorem dX11_expected_31 : decode cX11_expected 31 = .ok (.goto 16, 3) := by decide +kernel
theorem dX11_expected_34 : decode cX11_expected 34 = .ok (.aload_n 0, 1) := by decide +kernel
theorem dX11_expected_35 : decode cX11_expected 35 = .ok (.aload_n 0, 1) := by decide +kernel
theorem dX11_expected_36 : decode cX11_expected 36 = .ok (.getfield 65, 3) := by decide +kernel
theorem dX11_expected_39 : decode cX11_expected 39 = .ok (.aload_n 0, 1) := by decide +kernel
theorem dX11_expected_40 : decode cX11_expected 40 = .ok (.getfield 248, 3) := by decide +kernel
theorem dX11_expected_43 : decode cX11_expected 43 = .ok (.iload_n 3, 1) := by decide +kernel
theorem dX11_expected_44 : decode cX11_expected 44 = .ok (.invokevirtual 251, 3) := by decide +kernel
theorem dX11_expected_47 : decode cX11_expected 47 = .ok (.istore 4, 2) := by decide +kernel
theorem dX11_expected_49 : decode cX11_expected 49 = .ok (.iload_n 2, 1) := by decide +kernel
theorem dX11_expected_50 : decode cX11_expected 50 = .ok (.iload 4, 2) := by decide +kernel
theorem dX11_expected_52 : decode cX11_expected 52 = .ok (.aload_n 0, 1) := by decide +kernel
theorem dX11_expected_53 : decode cX11_expected 53 = .ok (.getfield 19, 3) := by decide +kernel
theorem dX11_expected_56 : decode cX11_expected 56 = .ok (.iload_n 3, 1) := by decide +kernel
theorem dX11_expected_57 : decode cX11_expected 57 = .ok (.iaload, 1) := by decide +kernel
theorem dX11_expected_58 : decode cX11_expected 58 = .ok (.imul, 1) := by decide +kernel
theorem dX11_expected_59 : decode cX11_expected 59 = .ok (.iadd, 1) := by decide +kernel
theorem dX11_expected_60 : decode cX11_expected 60 = .ok (.istore_n 2, 1) := by decide +kernel
theorem dX11_expected_61 : decode cX11_expected 61 = .ok (.iinc 3 1, 3) := by decide +kernel
theorem dX11_expected_64 : decode cX11_expected 64 = .ok (.goto (-60), 3) := by decide +kernel
theorem dX11_expected_67 : decode cX11_expected 67 = .ok (.iload_n 2, 1) := by decide +kernel
theorem dX11_expected_68 : decode cX11_expected 68 = .ok (.ireturn, 1) := by decide +kernel
set_option maxRecDepth 20000 in
theorem ggX11_told_X11_isGuest : GoodIn wsX11_told wsX11_isGuest := goodIn_r _ [11, 12, 13, 14, 10, 15, 42, 43, 44, 45, 46, 47, 48, 49, 50, 51, 52, 53, 54, 55, 56, 57, 58, 59, 60, 61, 62, 63, 64, 65, 66, 67, 68, 69, 70, 71, 72, 73, 74, 75, 76, 77, 78, 79, 80, 81, 82, 83, 84, 85, 86, 87, 88, 89, 90, 91, 92, 93, 94, 95, 96, 97, 98, 99] (by decide +kernel) (by decide +kernel)
set_option maxRecDepth 20000 in
theorem gX11_told_X11_isGuest : GoodIn wsX11_told (wsV RX11 255 RX11 yX11_isGuest wsX11_isGuest) := goodIn_app (goodIn_of _ (by decide +kernel)) ggX11_told_X11_isGuest
set_option maxRecDepth 20000 in
theorem ggX11_told_X11_pegOf : GoodIn wsX11_told wsX11_pegOf := goodIn_r _ [19, 20, 21, 42, 43, 44, 45, 46, 47, 48, 49, 50, 51, 52, 53, 54, 55, 56, 57, 58, 59, 60, 61, 62, 63, 64, 65, 66, 67, 68, 69, 70, 71, 72, 73, 74, 75, 76, 77, 78, 79, 80, 81, 82, 83, 84, 85, 86, 87, 88, 89, 90, 91, 92, 93, 94, 95, 96, 97, 98, 99] (by decide +kernel) (by decide +kernel)
set_option maxRecDepth 20000 in
theorem gX11_told_X11_pegOf : GoodIn wsX11_told (wsV RX11 258 RX11 yX11_pegOf wsX11_pegOf) := goodIn_app (goodIn_of _ (by decide +kernel)) ggX11_told_X11_pegOf
set_option maxRecDepth 20000 in
theorem ggX11_told_X11_holderOf : GoodIn wsX11_told wsX11_holderOf := goodIn_r _ [25, 12, 6, 42, 43, 44, 45, 46, 47, 48, 49, 50, 51, 52, 53, 54, 55, 56, 57, 58, 59, 60, 61, 62, 63, 64, 65, 66, 67, 68, 69, 70, 71, 72, 73, 74, 75, 76, 77, 78, 79, 80, 81, 82, 83, 84, 85, 86, 87, 88, 89, 90, 91, 92, 93, 94, 95, 96, 97, 98, 99] (by decide +kernel) (by decide +kernel)
set_option maxRecDepth 20000 in
theorem gX11_told_X11_holderOf : GoodIn wsX11_told (wsV RX11 261 RX11 yX11_holderOf wsX11_holderOf) := goodIn_app (goodIn_of _ (by decide +kernel)) ggX11_told_X11_holderOf
set_option maxRecDepth 20000 in
theorem ggX11_told_X11_expected : GoodIn wsX11_told wsX11_expected := goodIn_r _ [29, 30, 31, 1, 32, 33, 34, 35, 36, 10, 37, 38, 39, 40, 41, 42, 43, 44, 45, 46, 47, 48, 49, 50, 51, 52, 53, 54, 55, 56, 57, 58, 59, 60, 61, 62, 63, 64, 65, 66, 67, 68, 69, 70, 71, 72, 73, 74, 75, 76, 77, 78, 79, 80, 81, 82, 83, 84, 85, 86, 87, 88, 89, 90, 91, 92, 93, 94, 95, 96, 97, 98, 99] (by decide +kernel) (by decide +kernel)
set_option maxRecDepth 20000 in
theorem gX11_told_X11_expected : GoodIn wsX11_told (wsV RX11 264 RX11 yX11_expected wsX11_expected) := goodIn_app (goodIn_of _ (by decide +kernel)) ggX11_told_X11_expected
theorem dX11_told_0 : decode cX11_told 0 = .ok (.aload_n 0, 1) := by decide +kernel
theorem dX11_told_1 : decode cX11_told 1 = .ok (.iload_n 1, 1) := by decide +kernel
theorem dX11_told_2 : decode cX11_told 2 = .ok (.invokevirtual 255, 3) := by decide +kernel
theorem dX11_told_5 : decode cX11_told 5 = .ok (.ifCond .ne 7, 3) := by decide +kernel
theorem dX11_told_8 : decode cX11_told 8 = .ok (.sipush (-1001), 3) := by decide +kernel
theorem dX11_told_11 : decode cX11_told 11 = .ok (.ireturn, 1) := by decide +kernel
theorem dX11_told_12 : decode cX11_told 12 = .ok (.iload_n 2, 1) := by decide +kernel
theorem dX11_told_13 : decode cX11_told 13 = .ok (.tableswitch 111 0 8 #[51, 58, 65, 72, 79, 86, 92, 98, 105], 51) := by decide +kernel
theorem dX11_told_64 : decode cX11_told 64 = .ok (.aload_n 0, 1) := by decide +kernel
theorem dX11_told_65 : decode cX11_told 65 = .ok (.getfield 44, 3) := by decide +kernel
theorem dX11_told_68 : decode cX11_told 68 = .ok (.iload_n 1, 1) := by decide +kernel
theorem dX11_told_69 : decode cX11_told 69 = .ok (.iaload, 1) := by decide +kernel
theorem dX11_told_70 : decode cX11_told 70 = .ok (.ireturn, 1) := by decide +kernel
theorem dX11_told_71 : decode cX11_told 71 = .ok (.aload_n 0, 1) := by decide +kernel
theorem dX11_told_72 : decode cX11_told 72 = .ok (.getfield 47, 3) := by decide +kernel
theorem dX11_told_75 : decode cX11_told 75 = .ok (.iload_n 1, 1) := by decide +kernel
theorem dX11_told_76 : decode cX11_told 76 = .ok (.iaload, 1) := by decide +kernel
theorem dX11_told_77 : decode cX11_told 77 = .ok (.ireturn, 1) := by decide +kernel
theorem dX11_told_78 : decode cX11_told 78 = .ok (.aload_n 0, 1) := by decide +kernel
theorem dX11_told_79 : decode cX11_told 79 = .ok (.getfield 50, 3) := by decide +kernel
theorem dX11_told_82 : decode cX11_told 82 = .ok (.iload_n 1, 1) := by decide +kernel
theorem dX11_told_83 : decode cX11_told 83 = .ok (.iaload, 1) := by decide +kernel
theorem dX11_told_84 : decode cX11_told 84 = .ok (.ireturn, 1) := by decide +kernel
theorem dX11_told_85 : decode cX11_told 85 = .ok (.aload_n 0, 1) := by decide +kernel
theorem dX11_told_86 : decode cX11_told 86 = .ok (.getfield 53, 3) := by decide +kernel
theorem dX11_told_89 : decode cX11_told 89 = .ok (.iload_n 1, 1) := by decide +kernel
theorem dX11_told_90 : decode cX11_told 90 = .ok (.iaload, 1) := by decide +kernel
theorem dX11_told_91 : decode cX11_told 91 = .ok (.ireturn, 1) := by decide +kernel
theorem dX11_told_92 : decode cX11_told 92 = .ok (.aload_n 0, 1) := by decide +kernel
theorem dX11_told_93 : decode cX11_told 93 = .ok (.getfield 56, 3) := by decide +kernel
theorem dX11_told_96 : decode cX11_told 96 = .ok (.iload_n 1, 1) := by decide +kernel
theorem dX11_told_97 : decode cX11_told 97 = .ok (.iaload, 1) := by decide +kernel
theorem dX11_told_98 : decode cX11_told 98 = .ok (.ireturn, 1) := by decide +kernel
theorem dX11_told_99 : decode cX11_told 99 = .ok (.aload_n 0, 1) := by decide +kernel
theorem dX11_told_100 : decode cX11_told 100 = .ok (.iload_n 1, 1) := by decide +kernel
theorem dX11_told_101 : decode cX11_told 101 = .ok (.invokevirtual 258, 3) := by decide +kernel
theorem dX11_told_104 : decode cX11_told 104 = .ok (.ireturn, 1) := by decide +kernel
theorem dX11_told_105 : decode cX11_told 105 = .ok (.aload_n 0, 1) := by decide +kernel
theorem dX11_told_106 : decode cX11_told 106 = .ok (.iload_n 1, 1) := by decide +kernel
theorem dX11_told_107 : decode cX11_told 107 = .ok (.invokevirtual 261, 3) := by decide +kernel
theorem dX11_told_110 : decode cX11_told 110 = .ok (.ireturn, 1) := by decide +kernel
theorem dX11_told_111 : decode cX11_told 111 = .ok (.aload_n 0, 1) := by decide +kernel
theorem dX11_told_112 : decode cX11_told 112 = .ok (.getfield 59, 3) := by decide +kernel
theorem dX11_told_115 : decode cX11_told 115 = .ok (.iload_n 1, 1) := by decide +kernel
theorem dX11_told_116 : decode cX11_told 116 = .ok (.iaload, 1) := by decide +kernel
theorem dX11_told_117 : decode cX11_told 117 = .ok (.ireturn, 1) := by decide +kernel
theorem dX11_told_118 : decode cX11_told 118 = .ok (.aload_n 0, 1) := by decide +kernel
theorem dX11_told_119 : decode cX11_told 119 = .ok (.iload_n 1, 1) := by decide +kernel
theorem dX11_told_120 : decode cX11_told 120 = .ok (.invokevirtual 264, 3) := by decide +kernel
theorem dX11_told_123 : decode cX11_told 123 = .ok (.ireturn, 1) := by decide +kernel
theorem dX11_told_124 : decode cX11_told 124 = .ok (.sipush (-1002), 3) := by decide +kernel
theorem dX11_told_127 : decode cX11_told 127 = .ok (.ireturn, 1) := by decide +kernel
theorem dX11_nextPeg_0 : decode cX11_nextPeg 0 = .ok (.iconst (-1), 1) := by decide +kernel
theorem dX11_nextPeg_1 : decode cX11_nextPeg 1 = .ok (.istore_n 2, 1) := by decide +kernel
theorem dX11_nextPeg_2 : decode cX11_nextPeg 2 = .ok (.aload_n 0, 1) := by decide +kernel
theorem dX11_nextPeg_3 : decode cX11_nextPeg 3 = .ok (.getfield 221, 3) := by decide +kernel
theorem dX11_nextPeg_6 : decode cX11_nextPeg 6 = .ok (.iconst 1, 1) := by decide +kernel
theorem dX11_nextPeg_7 : decode cX11_nextPeg 7 = .ok (.isub, 1) := by decide +kernel
theorem dX11_nextPeg_8 : decode cX11_nextPeg 8 = .ok (.istore_n 3, 1) := by decide +kernel
theorem dX11_nextPeg_9 : decode cX11_nextPeg 9 = .ok (.iload_n 3, 1) := by decide +kernel
theorem dX11_nextPeg_10 : decode cX11_nextPeg 10 = .ok (.ifCond .lt 65, 3) := by decide +kernel
theorem dX11_nextPeg_13 : decode cX11_nextPeg 13 = .ok (.aload_n 0, 1) := by decide +kernel
theorem dX11_nextPeg_14 : decode cX11_nextPeg 14 = .ok (.getfield 71, 3) := by decide +kernel
theorem dX11_nextPeg_17 : decode cX11_nextPeg 17 = .ok (.iload_n 3, 1) := by decide +kernel
theorem dX11_nextPeg_18 : decode cX11_nextPeg 18 = .ok (.baload, 1) := by decide +kernel
theorem dX11_nextPeg_19 : decode cX11_nextPeg 19 = .ok (.ifCond .ne 17, 3) := by decide +kernel
theorem dX11_nextPeg_22 : decode cX11_nextPeg 22 = .ok (.aload_n 0, 1) := by decide +kernel
theorem dX11_nextPeg_23 : decode cX11_nextPeg 23 = .ok (.getfield 7, 3) := by decide +kernel
theorem dX11_nextPeg_26 : decode cX11_nextPeg 26 = .ok (.iload_n 3, 1) := by decide +kernel
theorem dX11_nextPeg_27 : decode cX11_nextPeg 27 = .ok (.iaload, 1) := by decide +kernel
theorem dX11_nextPeg_28 : decode cX11_nextPeg 28 = .ok (.iload_n 1, 1) := by decide +kernel
theorem dX11_nextPeg_29 : decode cX11_nextPeg 29 = .ok (.if_icmp .ne 7, 3) := by decide +kernel
theorem dX11_nextPeg_32 : decode cX11_nextPeg 32 = .ok (.iconst 1, 1) := by decide +kernel
theorem dX11_nextPeg_33 : decode cX11_nextPeg 33 = .ok (.goto 4, 3) := by decide +kernel
theorem dX11_nextPeg_36 : decode cX11_nextPeg 36 = .ok (.iconst 0, 1) := by decide +kernel
theorem dX11_nextPeg_37 : decode cX11_nextPeg 37 = .ok (.istore 4, 2) := by decide +kernel
theorem dX11_nextPeg_39 : decode cX11_nextPeg 39 = .ok (.iload 4, 2) := by decide +kernel
theorem dX11_nextPeg_41 : decode cX11_nextPeg 41 = .ok (.ifCond .eq 26, 3) := by decide +kernel
theorem dX11_nextPeg_44 : decode cX11_nextPeg 44 = .ok (.iload_n 2, 1) := by decide +kernel
theorem dX11_nextPeg_45 : decode cX11_nextPeg 45 = .ok (.ifCond .lt 18, 3) := by decide +kernel
theorem dX11_nextPeg_48 : decode cX11_nextPeg 48 = .ok (.aload_n 0, 1) := by decide +kernel
theorem dX11_nextPeg_49 : decode cX11_nextPeg 49 = .ok (.getfield 13, 3) := by decide +kernel
theorem dX11_nextPeg_52 : decode cX11_nextPeg 52 = .ok (.iload_n 3, 1) := by decide +kernel
theorem dX11_nextPeg_53 : decode cX11_nextPeg 53 = .ok (.iaload, 1) := by decide +kernel
theorem dX11_nextPeg_54 : decode cX11_nextPeg 54 = .ok (.aload_n 0, 1) := by decide +kernel
theorem dX11_nextPeg_55 : decode cX11_nextPeg 55 = .ok (.getfield 13, 3) := by decide +kernel
theorem dX11_nextPeg_58 : decode cX11_nextPeg 58 = .ok (.iload_n 2, 1) := by decide +kernel
theorem dX11_nextPeg_59 : decode cX11_nextPeg 59 = .ok (.iaload, 1) := by decide +kernel
theorem dX11_nextPeg_60 : decode cX11_nextPeg 60 = .ok (.if_icmp .gt 7, 3) := by decide +kernel
theorem dX11_nextPeg_63 : decode cX11_nextPeg 63 = .ok (.iload_n 3, 1) := by decide +kernel
theorem dX11_nextPeg_64 : decode cX11_nextPeg 64 = .ok (.goto 4, 3) := by decide +kernel
theorem dX11_nextPeg_67 : decode cX11_nextPeg 67 = .ok (.iload_n 2, 1) := by decide +kernel
theorem dX11_nextPeg_68 : decode cX11_nextPeg 68 = .ok (.istore_n 2, 1) := by decide +kernel
theorem dX11_nextPeg_69 : decode cX11_nextPeg 69 = .ok (.iinc 3 (-1), 3) := by decide +kernel
theorem dX11_nextPeg_72 : decode cX11_nextPeg 72 = .ok (.goto (-63), 3) := by decide +kernel
theorem dX11_nextPeg_75 : decode cX11_nextPeg 75 = .ok (.iload_n 2, 1) := by decide +kernel
theorem dX11_nextPeg_76 : decode cX11_nextPeg 76 = .ok (.ireturn, 1) := by decide +kernel
set_option maxRecDepth 20000 in
theorem ggX11_nextGuest_X11_expected : GoodIn wsX11_nextGuest wsX11_expected := goodIn_r _ [7, 8, 9, 10, 11, 12, 13, 14, 15, 6, 16, 17, 18, 19, 20, 21, 22, 23, 24, 25, 26, 27, 28, 29, 30, 31, 32, 33, 34, 35, 36, 37, 38, 39, 40, 41, 42, 43, 44, 45, 46, 47, 48, 49, 50, 51, 52, 53, 54, 55, 56, 57, 58, 59, 60, 61, 62, 63, 64, 65, 66, 67, 68, 69, 70, 71, 72, 73, 74, 75, 76, 77, 78] (by decide +kernel) (by decide +kernel)
set_option maxRecDepth 20000 in
theorem gX11_nextGuest_X11_expected : GoodIn wsX11_nextGuest (wsV RX11 264 RX11 yX11_expected wsX11_expected) := goodIn_app (goodIn_of _ (by decide +kernel)) ggX11_nextGuest_X11_expected
theorem dX11_nextGuest_0 : decode cX11_nextGuest 0 = .ok (.iconst (-1), 1) := by decide +kernel
theorem dX11_nextGuest_1 : decode cX11_nextGuest 1 = .ok (.istore_n 2, 1) := by decide +kernel
theorem dX11_nextGuest_2 : decode cX11_nextGuest 2 = .ok (.iconst 0, 1) := by decide +kernel
theorem dX11_nextGuest_3 : decode cX11_nextGuest 3 = .ok (.istore_n 3, 1) := by decide +kernel
theorem dX11_nextGuest_4 : decode cX11_nextGuest 4 = .ok (.iload_n 3, 1) := by decide +kernel
theorem dX11_nextGuest_5 : decode cX11_nextGuest 5 = .ok (.aload_n 0, 1) := by decide +kernel
theorem dX11_nextGuest_6 : decode cX11_nextGuest 6 = .ok (.getfield 227, 3) := by decide +kernel
theorem dX11_nextGuest_9 : decode cX11_nextGuest 9 = .ok (.if_icmp .ge 57, 3) := by decide +kernel
theorem dX11_nextGuest_12 : decode cX11_nextGuest 12 = .ok (.aload_n 0, 1) := by decide +kernel
theorem dX11_nextGuest_13 : decode cX11_nextGuest 13 = .ok (.getfield 68, 3) := by decide +kernel
theorem dX11_nextGuest_16 : decode cX11_nextGuest 16 = .ok (.iload_n 3, 1) := by decide +kernel
theorem dX11_nextGuest_17 : decode cX11_nextGuest 17 = .ok (.iaload, 1) := by decide +kernel
theorem dX11_nextGuest_18 : decode cX11_nextGuest 18 = .ok (.ifCond .ge 7, 3) := by decide +kernel
theorem dX11_nextGuest_21 : decode cX11_nextGuest 21 = .ok (.iconst 1, 1) := by decide +kernel
theorem dX11_nextGuest_22 : decode cX11_nextGuest 22 = .ok (.goto 4, 3) := by decide +kernel
theorem dX11_nextGuest_25 : decode cX11_nextGuest 25 = .ok (.iconst 0, 1) := by decide +kernel
theorem dX11_nextGuest_26 : decode cX11_nextGuest 26 = .ok (.istore 4, 2) := by decide +kernel
theorem dX11_nextGuest_28 : decode cX11_nextGuest 28 = .ok (.iload 4, 2) := by decide +kernel
theorem dX11_nextGuest_30 : decode cX11_nextGuest 30 = .ok (.ifCond .eq 28, 3) := by decide +kernel
theorem dX11_nextGuest_33 : decode cX11_nextGuest 33 = .ok (.iload_n 2, 1) := by decide +kernel
theorem dX11_nextGuest_34 : decode cX11_nextGuest 34 = .ok (.ifCond .lt 20, 3) := by decide +kernel
theorem dX11_nextGuest_37 : decode cX11_nextGuest 37 = .ok (.iload_n 1, 1) := by decide +kernel
theorem dX11_nextGuest_38 : decode cX11_nextGuest 38 = .ok (.ifCond .ne 20, 3) := by decide +kernel
theorem dX11_nextGuest_41 : decode cX11_nextGuest 41 = .ok (.aload_n 0, 1) := by decide +kernel
theorem dX11_nextGuest_42 : decode cX11_nextGuest 42 = .ok (.iload_n 3, 1) := by decide +kernel
theorem dX11_nextGuest_43 : decode cX11_nextGuest 43 = .ok (.invokevirtual 264, 3) := by decide +kernel
theorem dX11_nextGuest_46 : decode cX11_nextGuest 46 = .ok (.aload_n 0, 1) := by decide +kernel
theorem dX11_nextGuest_47 : decode cX11_nextGuest 47 = .ok (.iload_n 2, 1) := by decide +kernel
theorem dX11_nextGuest_48 : decode cX11_nextGuest 48 = .ok (.invokevirtual 264, 3) := by decide +kernel
theorem dX11_nextGuest_51 : decode cX11_nextGuest 51 = .ok (.if_icmp .le 7, 3) := by decide +kernel
theorem dX11_nextGuest_54 : decode cX11_nextGuest 54 = .ok (.iload_n 3, 1) := by decide +kernel
theorem dX11_nextGuest_55 : decode cX11_nextGuest 55 = .ok (.goto 4, 3) := by decide +kernel
theorem dX11_nextGuest_58 : decode cX11_nextGuest 58 = .ok (.iload_n 2, 1) := by decide +kernel
theorem dX11_nextGuest_59 : decode cX11_nextGuest 59 = .ok (.istore_n 2, 1) := by decide +kernel
theorem dX11_nextGuest_60 : decode cX11_nextGuest 60 = .ok (.iinc 3 1, 3) := by decide +kernel
theorem dX11_nextGuest_63 : decode cX11_nextGuest 63 = .ok (.goto (-59), 3) := by decide +kernel
theorem dX11_nextGuest_66 : decode cX11_nextGuest 66 = .ok (.iload_n 2, 1) := by decide +kernel
theorem dX11_nextGuest_67 : decode cX11_nextGuest 67 = .ok (.ireturn, 1) := by decide +kernel
set_option maxRecDepth 20000 in
theorem ggX11_findPlan_X11_nextGuest : GoodIn wsX11_findPlan wsX11_nextGuest := goodIn_r _ [9, 1, 2, 10, 11, 12, 8, 13, 14, 15, 16, 17, 18, 19, 20, 21, 22, 23, 24, 25, 26, 34, 35, 36, 37, 38, 39, 40, 41, 42, 43, 44, 45, 46, 47, 48, 49, 50, 51, 52, 53, 54, 55, 56, 57, 58, 59, 60, 61, 62, 63, 64, 65, 66, 67, 68, 69, 70, 71, 72, 73, 74, 75, 76, 77, 78, 79, 80, 81, 82, 83, 84, 85, 86, 87, 88, 89, 90, 91] (by decide +kernel) (by decide +kernel)
set_option maxRecDepth 20000 in
theorem gX11_findPlan_X11_nextGuest : GoodIn wsX11_findPlan (wsV RX11 267 RX11 yX11_nextGuest wsX11_nextGuest) := goodIn_app (goodIn_of _ (by decide +kernel)) ggX11_findPlan_X11_nextGuest
set_option maxRecDepth 20000 in
theorem ggX11_findPlan_X11_nextPeg : GoodIn wsX11_findPlan wsX11_nextPeg := goodIn_r _ [30, 31, 3, 32, 33, 34, 35, 36, 37, 38, 39, 40, 41, 42, 43, 44, 45, 46, 47, 48, 49, 50, 51, 52, 53, 54, 55, 56, 57, 58, 59, 60, 61, 62, 63, 64, 65, 66, 67, 68, 69, 70, 71, 72, 73, 74, 75, 76, 77, 78, 79, 80, 81, 82, 83, 84, 85, 86, 87, 88, 89, 90, 91] (by decide +kernel) (by decide +kernel)
set_option maxRecDepth 20000 in
theorem gX11_findPlan_X11_nextPeg : GoodIn wsX11_findPlan (wsV RX11 271 RX11 yX11_nextPeg wsX11_nextPeg) := goodIn_app (goodIn_of _ (by decide +kernel)) ggX11_findPlan_X11_nextPeg
theorem dX11_findPlan_0 : decode cX11_findPlan 0 = .ok (.iconst 0, 1) := by decide +kernel
theorem dX11_findPlan_1 : decode cX11_findPlan 1 = .ok (.istore_n 2, 1) := by decide +kernel
theorem dX11_findPlan_2 : decode cX11_findPlan 2 = .ok (.iload_n 2, 1) := by decide +kernel
theorem dX11_findPlan_3 : decode cX11_findPlan 3 = .ok (.aload_n 0, 1) := by decide +kernel
theorem dX11_findPlan_4 : decode cX11_findPlan 4 = .ok (.getfield 227, 3) := by decide +kernel
theorem dX11_findPlan_7 : decode cX11_findPlan 7 = .ok (.if_icmp .ge 16, 3) := by decide +kernel
theorem dX11_findPlan_10 : decode cX11_findPlan 10 = .ok (.aload_n 0, 1) := by decide +kernel
theorem dX11_findPlan_11 : decode cX11_findPlan 11 = .ok (.getfield 68, 3) := by decide +kernel
theorem dX11_findPlan_14 : decode cX11_findPlan 14 = .ok (.iload_n 2, 1) := by decide +kernel
theorem dX11_findPlan_15 : decode cX11_findPlan 15 = .ok (.iconst (-1), 1) := by decide +kernel
theorem dX11_findPlan_16 : decode cX11_findPlan 16 = .ok (.iastore, 1) := by decide +kernel
theorem dX11_findPlan_17 : decode cX11_findPlan 17 = .ok (.iinc 2 1, 3) := by decide +kernel
theorem dX11_findPlan_20 : decode cX11_findPlan 20 = .ok (.goto (-18), 3) := by decide +kernel
theorem dX11_findPlan_23 : decode cX11_findPlan 23 = .ok (.iconst 0, 1) := by decide +kernel
theorem dX11_findPlan_24 : decode cX11_findPlan 24 = .ok (.istore_n 2, 1) := by decide +kernel
theorem dX11_findPlan_25 : decode cX11_findPlan 25 = .ok (.iload_n 2, 1) := by decide +kernel
theorem dX11_findPlan_26 : decode cX11_findPlan 26 = .ok (.bipush 24, 2) := by decide +kernel
theorem dX11_findPlan_28 : decode cX11_findPlan 28 = .ok (.if_icmp .ge 16, 3) := by decide +kernel
theorem dX11_findPlan_31 : decode cX11_findPlan 31 = .ok (.aload_n 0, 1) := by decide +kernel
theorem dX11_findPlan_32 : decode cX11_findPlan 32 = .ok (.getfield 71, 3) := by decide +kernel
theorem dX11_findPlan_35 : decode cX11_findPlan 35 = .ok (.iload_n 2, 1) := by decide +kernel
theorem dX11_findPlan_36 : decode cX11_findPlan 36 = .ok (.iconst 0, 1) := by decide +kernel
theorem dX11_findPlan_37 : decode cX11_findPlan 37 = .ok (.bastore, 1) := by decide +kernel
theorem dX11_findPlan_38 : decode cX11_findPlan 38 = .ok (.iinc 2 1, 3) := by decide +kernel
theorem dX11_findPlan_41 : decode cX11_findPlan 41 = .ok (.goto (-16), 3) := by decide +kernel
theorem dX11_findPlan_44 : decode cX11_findPlan 44 = .ok (.iconst 0, 1) := by decide +kernel
theorem dX11_findPlan_45 : decode cX11_findPlan 45 = .ok (.istore_n 2, 1) := by decide +kernel
theorem dX11_findPlan_46 : decode cX11_findPlan 46 = .ok (.iload_n 2, 1) := by decide +kernel
theorem dX11_findPlan_47 : decode cX11_findPlan 47 = .ok (.aload_n 0, 1) := by decide +kernel
theorem dX11_findPlan_48 : decode cX11_findPlan 48 = .ok (.getfield 227, 3) := by decide +kernel
theorem dX11_findPlan_51 : decode cX11_findPlan 51 = .ok (.if_icmp .ge 50, 3) := by decide +kernel
theorem dX11_findPlan_54 : decode cX11_findPlan 54 = .ok (.aload_n 0, 1) := by decide +kernel
theorem dX11_findPlan_55 : decode cX11_findPlan 55 = .ok (.iload_n 1, 1) := by decide +kernel
theorem dX11_findPlan_56 : decode cX11_findPlan 56 = .ok (.invokevirtual 267, 3) := by decide +kernel
theorem dX11_findPlan_59 : decode cX11_findPlan 59 = .ok (.istore_n 3, 1) := by decide +kernel
theorem dX11_findPlan_60 : decode cX11_findPlan 60 = .ok (.aload_n 0, 1) := by decide +kernel
theorem dX11_findPlan_61 : decode cX11_findPlan 61 = .ok (.aload_n 0, 1) := by decide +kernel
theorem dX11_findPlan_62 : decode cX11_findPlan 62 = .ok (.getfield 47, 3) := by decide +kernel
theorem dX11_findPlan_65 : decode cX11_findPlan 65 = .ok (.iload_n 3, 1) := by decide +kernel
theorem dX11_findPlan_66 : decode cX11_findPlan 66 = .ok (.iaload, 1) := by decide +kernel
theorem dX11_findPlan_67 : decode cX11_findPlan 67 = .ok (.invokevirtual 271, 3) := by decide +kernel
theorem dX11_findPlan_70 : decode cX11_findPlan 70 = .ok (.istore 4, 2) := by decide +kernel
theorem dX11_findPlan_72 : decode cX11_findPlan 72 = .ok (.iload 4, 2) := by decide +kernel
theorem dX11_findPlan_74 : decode cX11_findPlan 74 = .ok (.ifCond .ge 5, 3) := by decide +kernel
theorem dX11_findPlan_77 : decode cX11_findPlan 77 = .ok (.iconst 0, 1) := by decide +kernel
theorem dX11_findPlan_78 : decode cX11_findPlan 78 = .ok (.ireturn, 1) := by decide +kernel
theorem dX11_findPlan_79 : decode cX11_findPlan 79 = .ok (.aload_n 0, 1) := by decide +kernel
theorem dX11_findPlan_80 : decode cX11_findPlan 80 = .ok (.getfield 68, 3) := by decide +kernel
theorem dX11_findPlan_83 : decode cX11_findPlan 83 = .ok (.iload_n 3, 1) := by decide +kernel
theorem dX11_findPlan_84 : decode cX11_findPlan 84 = .ok (.iload 4, 2) := by decide +kernel
theorem dX11_findPlan_86 : decode cX11_findPlan 86 = .ok (.iastore, 1) := by decide +kernel
theorem dX11_findPlan_87 : decode cX11_findPlan 87 = .ok (.aload_n 0, 1) := by decide +kernel
theorem dX11_findPlan_88 : decode cX11_findPlan 88 = .ok (.getfield 71, 3) := by decide +kernel
theorem dX11_findPlan_91 : decode cX11_findPlan 91 = .ok (.iload 4, 2) := by decide +kernel
theorem dX11_findPlan_93 : decode cX11_findPlan 93 = .ok (.iconst 1, 1) := by decide +kernel
theorem dX11_findPlan_94 : decode cX11_findPlan 94 = .ok (.bastore, 1) := by decide +kernel
theorem dX11_findPlan_95 : decode cX11_findPlan 95 = .ok (.iinc 2 1, 3) := by decide +kernel
theorem dX11_findPlan_98 : decode cX11_findPlan 98 = .ok (.goto (-52), 3) := by decide +kernel
theorem dX11_findPlan_101 : decode cX11_findPlan 101 = .ok (.iconst 1, 1) := by decide +kernel
theorem dX11_findPlan_102 : decode cX11_findPlan 102 = .ok (.ireturn, 1) := by decide +kernel
set_option maxRecDepth 20000 in
theorem ggX11_plan_X11_isGuest : GoodIn wsX11_plan wsX11_isGuest := goodIn_r _ [8, 1, 9, 10, 7, 11, 45, 46, 47, 48, 49, 50, 51, 52, 53, 54, 55, 56, 57, 58, 59, 60, 61, 62, 63, 64, 65, 66, 67, 68, 69, 70, 71, 72, 73, 74, 75, 76, 77, 78, 79, 80, 81, 82, 83, 84, 85, 86, 87, 88, 89, 90, 91, 92, 93, 94, 95, 96, 97, 98, 99, 100, 101, 102] (by decide +kernel) (by decide +kernel)
set_option maxRecDepth 20000 in
theorem gX11_plan_X11_isGuest : GoodIn wsX11_plan (wsV RX11 255 RX11 yX11_isGuest wsX11_isGuest) := goodIn_app (goodIn_of _ (by decide +kernel)) ggX11_plan_X11_isGuest
set_option maxRecDepth 20000 in
theorem ggX11_plan_X11_findPlan : GoodIn wsX11_plan wsX11_findPlan := goodIn_r _ [15, 1, 3, 16, 17, 18, 19, 20, 7, 21, 22, 23, 24, 25, 26, 27, 28, 29, 30, 31, 32, 33, 34, 35, 36, 37, 38, 39, 40, 41, 42, 43, 44, 2, 45, 46, 47, 48, 49, 50, 51, 52, 53, 54, 55, 56, 57, 58, 59, 60, 61, 62, 63, 64, 65, 66, 67, 68, 69, 70, 71, 72, 73, 74, 75, 76, 77, 78, 79, 80, 81, 82, 83, 84, 85, 86, 87, 88, 89, 90, 91, 92, 93, 94, 95, 96, 97, 98, 99, 100, 101, 102] (by decide +kernel) (by decide +kernel)
set_option maxRecDepth 20000 in
theorem gX11_plan_X11_findPlan : GoodIn wsX11_plan (wsV RX11 274 RX11 yX11_findPlan wsX11_findPlan) := goodIn_app (goodIn_of _ (by decide +kernel)) ggX11_plan_X11_findPlan
set_option maxRecDepth 20000 in
theorem ggX11_plan_X11_expected : GoodIn wsX11_plan wsX11_expected := goodIn_r _ [25, 26, 27, 28, 29, 30, 31, 32, 33, 7, 34, 35, 36, 37, 38, 45, 46, 47, 48, 49, 50, 51, 52, 53, 54, 55, 56, 57, 58, 59, 60, 61, 62, 63, 64, 65, 66, 67, 68, 69, 70, 71, 72, 73, 74, 75, 76, 77, 78, 79, 80, 81, 82, 83, 84, 85, 86, 87, 88, 89, 90, 91, 92, 93, 94, 95, 96, 97, 98, 99, 100, 101, 102] (by decide +kernel) (by decide +kernel)
set_option maxRecDepth 20000 in
theorem gX11_plan_X11_expected : GoodIn wsX11_plan (wsV RX11 264 RX11 yX11_expected wsX11_expected) := goodIn_app (goodIn_of _ (by decide +kernel)) ggX11_plan_X11_expected
theorem dX11_plan_0 : decode cX11_plan 0 = .ok (.iload_n 2, 1) := by decide +kernel
theorem dX11_plan_1 : decode cX11_plan 1 = .ok (.iconst (-1), 1) := by decide +kernel
theorem dX11_plan_2 : decode cX11_plan 2 = .ok (.if_icmp .eq 15, 3) := by decide +kernel
theorem dX11_plan_5 : decode cX11_plan 5 = .ok (.aload_n 0, 1) := by decide +kernel
theorem dX11_plan_6 : decode cX11_plan 6 = .ok (.iload_n 2, 1) := by decide +kernel
theorem dX11_plan_7 : decode cX11_plan 7 = .ok (.invokevirtual 255, 3) := by decide +kernel
theorem dX11_plan_10 : decode cX11_plan 10 = .ok (.ifCond .ne 7, 3) := by decide +kernel
theorem dX11_plan_13 : decode cX11_plan 13 = .ok (.sipush (-1001), 3) := by decide +kernel
theorem dX11_plan_16 : decode cX11_plan 16 = .ok (.ireturn, 1) := by decide +kernel
theorem dX11_plan_17 : decode cX11_plan 17 = .ok (.aload_n 0, 1) := by decide +kernel
theorem dX11_plan_18 : decode cX11_plan 18 = .ok (.iload_n 1, 1) := by decide +kernel
theorem dX11_plan_19 : decode cX11_plan 19 = .ok (.invokevirtual 274, 3) := by decide +kernel
theorem dX11_plan_22 : decode cX11_plan 22 = .ok (.ifCond .ne 5, 3) := by decide +kernel
theorem dX11_plan_25 : decode cX11_plan 25 = .ok (.iconst (-1), 1) := by decide +kernel
theorem dX11_plan_26 : decode cX11_plan 26 = .ok (.ireturn, 1) := by decide +kernel
theorem dX11_plan_27 : decode cX11_plan 27 = .ok (.iconst 0, 1) := by decide +kernel
theorem dX11_plan_28 : decode cX11_plan 28 = .ok (.istore_n 3, 1) := by decide +kernel
theorem dX11_plan_29 : decode cX11_plan 29 = .ok (.iconst 0, 1) := by decide +kernel
theorem dX11_plan_30 : decode cX11_plan 30 = .ok (.istore 4, 2) := by decide +kernel
theorem dX11_plan_32 : decode cX11_plan 32 = .ok (.iload 4, 2) := by decide +kernel
theorem dX11_plan_34 : decode cX11_plan 34 = .ok (.aload_n 0, 1) := by decide +kernel
theorem dX11_plan_35 : decode cX11_plan 35 = .ok (.getfield 227, 3) := by decide +kernel
theorem dX11_plan_38 : decode cX11_plan 38 = .ok (.if_icmp .ge 31, 3) := by decide +kernel
theorem dX11_plan_41 : decode cX11_plan 41 = .ok (.iload_n 3, 1) := by decide +kernel
theorem dX11_plan_42 : decode cX11_plan 42 = .ok (.aload_n 0, 1) := by decide +kernel
theorem dX11_plan_43 : decode cX11_plan 43 = .ok (.iload 4, 2) := by decide +kernel
theorem dX11_plan_45 : decode cX11_plan 45 = .ok (.invokevirtual 264, 3) := by decide +kernel
theorem dX11_plan_48 : decode cX11_plan 48 = .ok (.aload_n 0, 1) := by decide +kernel
theorem dX11_plan_49 : decode cX11_plan 49 = .ok (.getfield 13, 3) := by decide +kernel
theorem dX11_plan_52 : decode cX11_plan 52 = .ok (.aload_n 0, 1) := by decide +kernel
theorem dX11_plan_53 : decode cX11_plan 53 = .ok (.getfield 68, 3) := by decide +kernel
theorem dX11_plan_56 : decode cX11_plan 56 = .ok (.iload 4, 2) := by decide +kernel
theorem dX11_plan_58 : decode cX11_plan 58 = .ok (.iaload, 1) := by decide +kernel
theorem dX11_plan_59 : decode cX11_plan 59 = .ok (.iaload, 1) := by decide +kernel
theorem dX11_plan_60 : decode cX11_plan 60 = .ok (.imul, 1) := by decide +kernel
theorem dX11_plan_61 : decode cX11_plan 61 = .ok (.iadd, 1) := by decide +kernel
theorem dX11_plan_62 : decode cX11_plan 62 = .ok (.istore_n 3, 1) := by decide +kernel
theorem dX11_plan_63 : decode cX11_plan 63 = .ok (.iinc 4 1, 3) := by decide +kernel
theorem dX11_plan_66 : decode cX11_plan 66 = .ok (.goto (-34), 3) := by decide +kernel
theorem dX11_plan_69 : decode cX11_plan 69 = .ok (.iload_n 2, 1) := by decide +kernel
theorem dX11_plan_70 : decode cX11_plan 70 = .ok (.iconst (-1), 1) := by decide +kernel
theorem dX11_plan_71 : decode cX11_plan 71 = .ok (.if_icmp .ne 7, 3) := by decide +kernel
theorem dX11_plan_74 : decode cX11_plan 74 = .ok (.iload_n 3, 1) := by decide +kernel
theorem dX11_plan_75 : decode cX11_plan 75 = .ok (.goto 9, 3) := by decide +kernel
theorem dX11_plan_78 : decode cX11_plan 78 = .ok (.aload_n 0, 1) := by decide +kernel
theorem dX11_plan_79 : decode cX11_plan 79 = .ok (.getfield 68, 3) := by decide +kernel
theorem dX11_plan_82 : decode cX11_plan 82 = .ok (.iload_n 2, 1) := by decide +kernel
theorem dX11_plan_83 : decode cX11_plan 83 = .ok (.iaload, 1) := by decide +kernel
theorem dX11_plan_84 : decode cX11_plan 84 = .ok (.ireturn, 1) := by decide +kernel
set_option maxRecDepth 20000 in
theorem ggX11_isNight_X11_in : GoodIn wsX11_isNight wsX11_in := goodIn_r _ [5] (by decide +kernel) (by decide +kernel)
set_option maxRecDepth 20000 in
theorem gX11_isNight_X11_in : GoodIn wsX11_isNight (va_wsS RX11 126 yX11_in wsX11_in) := goodIn_app (goodIn_of _ (by decide +kernel)) ggX11_isNight_X11_in
theorem dX11_isNight_0 : decode cX11_isNight 0 = .ok (.iload_n 0, 1) := by decide +kernel
theorem dX11_isNight_1 : decode cX11_isNight 1 = .ok (.i2l, 1) := by decide +kernel
theorem dX11_isNight_2 : decode cX11_isNight 2 = .ok (.lconst 0, 1) := by decide +kernel
theorem dX11_isNight_3 : decode cX11_isNight 3 = .ok (.ldc2_w 234, 3) := by decide +kernel
theorem dX11_isNight_6 : decode cX11_isNight 6 = .ok (.invokestatic 126, 3) := by decide +kernel
theorem dX11_isNight_9 : decode cX11_isNight 9 = .ok (.ifCond .eq 17, 3) := by decide +kernel
theorem dX11_isNight_12 : decode cX11_isNight 12 = .ok (.iload_n 1, 1) := by decide +kernel
theorem dX11_isNight_13 : decode cX11_isNight 13 = .ok (.i2l, 1) := by decide +kernel
theorem dX11_isNight_14 : decode cX11_isNight 14 = .ok (.lconst 0, 1) := by decide +kernel
theorem dX11_isNight_15 : decode cX11_isNight 15 = .ok (.lconst 1, 1) := by decide +kernel
theorem dX11_isNight_16 : decode cX11_isNight 16 = .ok (.invokestatic 126, 3) := by decide +kernel
theorem dX11_isNight_19 : decode cX11_isNight 19 = .ok (.ifCond .eq 7, 3) := by decide +kernel
theorem dX11_isNight_22 : decode cX11_isNight 22 = .ok (.iconst 1, 1) := by decide +kernel
theorem dX11_isNight_23 : decode cX11_isNight 23 = .ok (.goto 4, 3) := by decide +kernel
theorem dX11_isNight_26 : decode cX11_isNight 26 = .ok (.iconst 0, 1) := by decide +kernel
theorem dX11_isNight_27 : decode cX11_isNight 27 = .ok (.ireturn, 1) := by decide +kernel
set_option maxRecDepth 20000 in
theorem ggX11_night_X11_isNight : GoodIn wsX11_night wsX11_isNight := goodIn_r _ [9, 10, 11, 12, 8, 13] (by decide +kernel) (by decide +kernel)
set_option maxRecDepth 20000 in
theorem gX11_night_X11_isNight : GoodIn wsX11_night (va_wsS RX11 278 yX11_isNight wsX11_isNight) := goodIn_app (goodIn_of _ (by decide +kernel)) ggX11_night_X11_isNight
set_option maxRecDepth 20000 in
theorem ggX11_night_X11_in : GoodIn wsX11_night wsX11_in := goodIn_r _ [13] (by decide +kernel) (by decide +kernel)
set_option maxRecDepth 20000 in
theorem gX11_night_X11_in : GoodIn wsX11_night (va_wsS RX11 126 yX11_in wsX11_in) := goodIn_app (goodIn_of _ (by decide +kernel)) ggX11_night_X11_in
theorem dX11_night_0 : decode cX11_night 0 = .ok (.iload_n 1, 1) := by decide +kernel
theorem dX11_night_1 : decode cX11_night 1 = .ok (.iload_n 2, 1) := by decide +kernel
theorem dX11_night_2 : decode cX11_night 2 = .ok (.invokestatic 278, 3) := by decide +kernel
theorem dX11_night_5 : decode cX11_night 5 = .ok (.ifCond .eq 41, 3) := by decide +kernel
theorem dX11_night_8 : decode cX11_night 8 = .ok (.iload_n 3, 1) := by decide +kernel
theorem dX11_night_9 : decode cX11_night 9 = .ok (.i2l, 1) := by decide +kernel
theorem dX11_night_10 : decode cX11_night 10 = .ok (.lconst 0, 1) := by decide +kernel
theorem dX11_night_11 : decode cX11_night 11 = .ok (.ldc2_w 282, 3) := by decide +kernel
theorem dX11_night_14 : decode cX11_night 14 = .ok (.invokestatic 126, 3) := by decide +kernel
theorem dX11_night_17 : decode cX11_night 17 = .ok (.ifCond .eq 29, 3) := by decide +kernel
theorem dX11_night_20 : decode cX11_night 20 = .ok (.iload 4, 2) := by decide +kernel
theorem dX11_night_22 : decode cX11_night 22 = .ok (.i2l, 1) := by decide +kernel
theorem dX11_night_23 : decode cX11_night 23 = .ok (.lconst 0, 1) := by decide +kernel
theorem dX11_night_24 : decode cX11_night 24 = .ok (.ldc2_w 282, 3) := by decide +kernel
theorem dX11_night_27 : decode cX11_night 27 = .ok (.invokestatic 126, 3) := by decide +kernel
theorem dX11_night_30 : decode cX11_night 30 = .ok (.ifCond .eq 16, 3) := by decide +kernel
theorem dX11_night_33 : decode cX11_night 33 = .ok (.iload 5, 2) := by decide +kernel
theorem dX11_night_35 : decode cX11_night 35 = .ok (.i2l, 1) := by decide +kernel
theorem dX11_night_36 : decode cX11_night 36 = .ok (.lconst 0, 1) := by decide +kernel
theorem dX11_night_37 : decode cX11_night 37 = .ok (.ldc2_w 282, 3) := by decide +kernel
theorem dX11_night_40 : decode cX11_night 40 = .ok (.invokestatic 126, 3) := by decide +kernel
theorem dX11_night_43 : decode cX11_night 43 = .ok (.ifCond .ne 7, 3) := by decide +kernel
theorem dX11_night_46 : decode cX11_night 46 = .ok (.sipush (-1002), 3) := by decide +kernel
theorem dX11_night_49 : decode cX11_night 49 = .ok (.ireturn, 1) := by decide +kernel
theorem dX11_night_50 : decode cX11_night 50 = .ok (.aload_n 0, 1) := by decide +kernel
theorem dX11_night_51 : decode cX11_night 51 = .ok (.getfield 241, 3) := by decide +kernel
theorem dX11_night_54 : decode cX11_night 54 = .ok (.bipush 60, 2) := by decide +kernel
theorem dX11_night_56 : decode cX11_night 56 = .ok (.if_icmp .ne 7, 3) := by decide +kernel
theorem dX11_night_59 : decode cX11_night 59 = .ok (.sipush (-1004), 3) := by decide +kernel
theorem dX11_night_62 : decode cX11_night 62 = .ok (.ireturn, 1) := by decide +kernel
theorem dX11_night_63 : decode cX11_night 63 = .ok (.aload_n 0, 1) := by decide +kernel
theorem dX11_night_64 : decode cX11_night 64 = .ok (.getfield 75, 3) := by decide +kernel
theorem dX11_night_67 : decode cX11_night 67 = .ok (.aload_n 0, 1) := by decide +kernel
theorem dX11_night_68 : decode cX11_night 68 = .ok (.getfield 241, 3) := by decide +kernel
theorem dX11_night_71 : decode cX11_night 71 = .ok (.iload_n 1, 1) := by decide +kernel
theorem dX11_night_72 : decode cX11_night 72 = .ok (.iastore, 1) := by decide +kernel
theorem dX11_night_73 : decode cX11_night 73 = .ok (.aload_n 0, 1) := by decide +kernel
theorem dX11_night_74 : decode cX11_night 74 = .ok (.getfield 78, 3) := by decide +kernel
theorem dX11_night_77 : decode cX11_night 77 = .ok (.aload_n 0, 1) := by decide +kernel
theorem dX11_night_78 : decode cX11_night 78 = .ok (.getfield 241, 3) := by decide +kernel
theorem dX11_night_81 : decode cX11_night 81 = .ok (.iload_n 2, 1) := by decide +kernel
theorem dX11_night_82 : decode cX11_night 82 = .ok (.iastore, 1) := by decide +kernel
theorem dX11_night_83 : decode cX11_night 83 = .ok (.aload_n 0, 1) := by decide +kernel
theorem dX11_night_84 : decode cX11_night 84 = .ok (.getfield 81, 3) := by decide +kernel
theorem dX11_night_87 : decode cX11_night 87 = .ok (.iconst 3, 1) := by decide +kernel
theorem dX11_night_88 : decode cX11_night 88 = .ok (.aload_n 0, 1) := by decide +kernel
theorem dX11_night_89 : decode cX11_night 89 = .ok (.getfield 241, 3) := by decide +kernel
theorem dX11_night_92 : decode cX11_night 92 = .ok (.imul, 1) := by decide +kernel
theorem dX11_night_93 : decode cX11_night 93 = .ok (.iload_n 3, 1) := by decide +kernel
theorem dX11_night_94 : decode cX11_night 94 = .ok (.iastore, 1) := by decide +kernel
theorem dX11_night_95 : decode cX11_night 95 = .ok (.aload_n 0, 1) := by decide +kernel
theorem dX11_night_96 : decode cX11_night 96 = .ok (.getfield 81, 3) := by decide +kernel
theorem dX11_night_99 : decode cX11_night 99 = .ok (.iconst 3, 1) := by decide +kernel
theorem dX11_night_100 : decode cX11_night 100 = .ok (.aload_n 0, 1) := by decide +kernel
theorem dX11_night_101 : decode cX11_night 101 = .ok (.getfield 241, 3) := by decide +kernel
theorem dX11_night_104 : decode cX11_night 104 = .ok (.imul, 1) := by decide +kernel
theorem dX11_night_105 : decode cX11_night 105 = .ok (.iconst 1, 1) := by decide +kernel
theorem dX11_night_106 : decode cX11_night 106 = .ok (.iadd, 1) := by decide +kernel
theorem dX11_night_107 : decode cX11_night 107 = .ok (.iload 4, 2) := by decide +kernel
theorem dX11_night_109 : decode cX11_night 109 = .ok (.iastore, 1) := by decide +kernel
theorem dX11_night_110 : decode cX11_night 110 = .ok (.aload_n 0, 1) := by decide +kernel
theorem dX11_night_111 : decode cX11_night 111 = .ok (.getfield 81, 3) := by decide +kernel
theorem dX11_night_114 : decode cX11_night 114 = .ok (.iconst 3, 1) := by decide +kernel
theorem dX11_night_115 : decode cX11_night 115 = .ok (.aload_n 0, 1) := by decide +kernel
theorem dX11_night_116 : decode cX11_night 116 = .ok (.getfield 241, 3) := by decide +kernel
theorem dX11_night_119 : decode cX11_night 119 = .ok (.imul, 1) := by decide +kernel
theorem dX11_night_120 : decode cX11_night 120 = .ok (.iconst 2, 1) := by decide +kernel
theorem dX11_night_121 : decode cX11_night 121 = .ok (.iadd, 1) := by decide +kernel
theorem dX11_night_122 : decode cX11_night 122 = .ok (.iload 5, 2) := by decide +kernel
theorem dX11_night_124 : decode cX11_night 124 = .ok (.iastore, 1) := by decide +kernel
theorem dX11_night_125 : decode cX11_night 125 = .ok (.aload_n 0, 1) := by decide +kernel
theorem dX11_night_126 : decode cX11_night 126 = .ok (.dup, 1) := by decide +kernel
theorem dX11_night_127 : decode cX11_night 127 = .ok (.getfield 241, 3) := by decide +kernel
theorem dX11_night_130 : decode cX11_night 130 = .ok (.iconst 1, 1) := by decide +kernel
theorem dX11_night_131 : decode cX11_night 131 = .ok (.iadd, 1) := by decide +kernel
theorem dX11_night_132 : decode cX11_night 132 = .ok (.putfield 241, 3) := by decide +kernel
theorem dX11_night_135 : decode cX11_night 135 = .ok (.aload_n 0, 1) := by decide +kernel
theorem dX11_night_136 : decode cX11_night 136 = .ok (.getfield 241, 3) := by decide +kernel
theorem dX11_night_139 : decode cX11_night 139 = .ok (.ireturn, 1) := by decide +kernel
theorem dX11_learntOf_0 : decode cX11_learntOf 0 = .ok (.iconst 3, 1) := by decide +kernel
theorem dX11_learntOf_1 : decode cX11_learntOf 1 = .ok (.istore 4, 2) := by decide +kernel
theorem dX11_learntOf_3 : decode cX11_learntOf 3 = .ok (.iconst 1, 1) := by decide +kernel
theorem dX11_learntOf_4 : decode cX11_learntOf 4 = .ok (.istore 5, 2) := by decide +kernel
theorem dX11_learntOf_6 : decode cX11_learntOf 6 = .ok (.iconst 1, 1) := by decide +kernel
theorem dX11_learntOf_7 : decode cX11_learntOf 7 = .ok (.istore 6, 2) := by decide +kernel
theorem dX11_learntOf_9 : decode cX11_learntOf 9 = .ok (.iconst 0, 1) := by decide +kernel
theorem dX11_learntOf_10 : decode cX11_learntOf 10 = .ok (.istore 7, 2) := by decide +kernel
theorem dX11_learntOf_12 : decode cX11_learntOf 12 = .ok (.iload 7, 2) := by decide +kernel
theorem dX11_learntOf_14 : decode cX11_learntOf 14 = .ok (.aload_n 0, 1) := by decide +kernel
theorem dX11_learntOf_15 : decode cX11_learntOf 15 = .ok (.getfield 241, 3) := by decide +kernel
theorem dX11_learntOf_18 : decode cX11_learntOf 18 = .ok (.if_icmp .ge 99, 3) := by decide +kernel
theorem dX11_learntOf_21 : decode cX11_learntOf 21 = .ok (.aload_n 0, 1) := by decide +kernel
theorem dX11_learntOf_22 : decode cX11_learntOf 22 = .ok (.getfield 75, 3) := by decide +kernel
theorem dX11_learntOf_25 : decode cX11_learntOf 25 = .ok (.iload 7, 2) := by decide +kernel
theorem dX11_learntOf_27 : decode cX11_learntOf 27 = .ok (.iaload, 1) := by decide +kernel
theorem dX11_learntOf_28 : decode cX11_learntOf 28 = .ok (.iload_n 1, 1) := by decide +kernel
theorem dX11_learntOf_29 : decode cX11_learntOf 29 = .ok (.if_icmp .ne 82, 3) := by decide +kernel
theorem dX11_learntOf_32 : decode cX11_learntOf 32 = .ok (.aload_n 0, 1) := by decide +kernel
theorem dX11_learntOf_33 : decode cX11_learntOf 33 = .ok (.getfield 78, 3) := by decide +kernel
theorem dX11_learntOf_36 : decode cX11_learntOf 36 = .ok (.iload 7, 2) := by decide +kernel
theorem dX11_learntOf_38 : decode cX11_learntOf 38 = .ok (.iaload, 1) := by decide +kernel
theorem dX11_learntOf_39 : decode cX11_learntOf 39 = .ok (.iload_n 2, 1) := by decide +kernel
theorem dX11_learntOf_40 : decode cX11_learntOf 40 = .ok (.if_icmp .ne 71, 3) := by decide +kernel
theorem dX11_learntOf_43 : decode cX11_learntOf 43 = .ok (.iload 5, 2) := by decide +kernel
theorem dX11_learntOf_45 : decode cX11_learntOf 45 = .ok (.aload_n 0, 1) := by decide +kernel
theorem dX11_learntOf_46 : decode cX11_learntOf 46 = .ok (.getfield 81, 3) := by decide +kernel
theorem dX11_learntOf_49 : decode cX11_learntOf 49 = .ok (.iconst 3, 1) := by decide +kernel
theorem dX11_learntOf_50 : decode cX11_learntOf 50 = .ok (.iload 7, 2) := by decide +kernel
theorem dX11_learntOf_52 : decode cX11_learntOf 52 = .ok (.imul, 1) := by decide +kernel
theorem dX11_learntOf_53 : decode cX11_learntOf 53 = .ok (.iaload, 1) := by decide +kernel
theorem dX11_learntOf_54 : decode cX11_learntOf 54 = .ok (.iadd, 1) := by decide +kernel
theorem dX11_learntOf_55 : decode cX11_learntOf 55 = .ok (.istore 5, 2) := by decide +kernel
theorem dX11_learntOf_57 : decode cX11_learntOf 57 = .ok (.iload 6, 2) := by decide +kernel
theorem dX11_learntOf_59 : decode cX11_learntOf 59 = .ok (.aload_n 0, 1) := by decide +kernel
theorem dX11_learntOf_60 : decode cX11_learntOf 60 = .ok (.getfield 81, 3) := by decide +kernel
theorem dX11_learntOf_63 : decode cX11_learntOf 63 = .ok (.iconst 3, 1) := by decide +kernel
theorem dX11_learntOf_64 : decode cX11_learntOf 64 = .ok (.iload 7, 2) := by decide +kernel
theorem dX11_learntOf_66 : decode cX11_learntOf 66 = .ok (.imul, 1) := by decide +kernel
theorem dX11_learntOf_67 : decode cX11_learntOf 67 = .ok (.iconst 1, 1) := by decide +kernel
theorem dX11_learntOf_68 : decode cX11_learntOf 68 = .ok (.iadd, 1) := by decide +kernel
theorem dX11_learntOf_69 : decode cX11_learntOf 69 = .ok (.iaload, 1) := by decide +kernel
theorem dX11_learntOf_70 : decode cX11_learntOf 70 = .ok (.iadd, 1) := by decide +kernel
theorem dX11_learntOf_71 : decode cX11_learntOf 71 = .ok (.istore 6, 2) := by decide +kernel
theorem dX11_learntOf_73 : decode cX11_learntOf 73 = .ok (.iload 4, 2) := by decide +kernel
theorem dX11_learntOf_75 : decode cX11_learntOf 75 = .ok (.aload_n 0, 1) := by decide +kernel
theorem dX11_learntOf_76 : decode cX11_learntOf 76 = .ok (.getfield 81, 3) := by decide +kernel
theorem dX11_learntOf_79 : decode cX11_learntOf 79 = .ok (.iconst 3, 1) := by decide +kernel
theorem dX11_learntOf_80 : decode cX11_learntOf 80 = .ok (.iload 7, 2) := by decide +kernel
theorem dX11_learntOf_82 : decode cX11_learntOf 82 = .ok (.imul, 1) := by decide +kernel
theorem dX11_learntOf_83 : decode cX11_learntOf 83 = .ok (.iaload, 1) := by decide +kernel
theorem dX11_learntOf_84 : decode cX11_learntOf 84 = .ok (.aload_n 0, 1) := by decide +kernel
theorem dX11_learntOf_85 : decode cX11_learntOf 85 = .ok (.getfield 81, 3) := by decide +kernel
theorem dX11_learntOf_88 : decode cX11_learntOf 88 = .ok (.iconst 3, 1) := by decide +kernel
theorem dX11_learntOf_89 : decode cX11_learntOf 89 = .ok (.iload 7, 2) := by decide +kernel
theorem dX11_learntOf_91 : decode cX11_learntOf 91 = .ok (.imul, 1) := by decide +kernel
theorem dX11_learntOf_92 : decode cX11_learntOf 92 = .ok (.iconst 1, 1) := by decide +kernel
theorem dX11_learntOf_93 : decode cX11_learntOf 93 = .ok (.iadd, 1) := by decide +kernel
theorem dX11_learntOf_94 : decode cX11_learntOf 94 = .ok (.iaload, 1) := by decide +kernel
theorem dX11_learntOf_95 : decode cX11_learntOf 95 = .ok (.iadd, 1) := by decide +kernel
theorem dX11_learntOf_96 : decode cX11_learntOf 96 = .ok (.aload_n 0, 1) := by decide +kernel
theorem dX11_learntOf_97 : decode cX11_learntOf 97 = .ok (.getfield 81, 3) := by decide +kernel
theorem dX11_learntOf_100 : decode cX11_learntOf 100 = .ok (.iconst 3, 1) := by decide +kernel
theorem dX11_learntOf_101 : decode cX11_learntOf 101 = .ok (.iload 7, 2) := by decide +kernel
theorem dX11_learntOf_103 : decode cX11_learntOf 103 = .ok (.imul, 1) := by decide +kernel
theorem dX11_learntOf_104 : decode cX11_learntOf 104 = .ok (.iconst 2, 1) := by decide +kernel
theorem dX11_learntOf_105 : decode cX11_learntOf 105 = .ok (.iadd, 1) := by decide +kernel
theorem dX11_learntOf_106 : decode cX11_learntOf 106 = .ok (.iaload, 1) := by decide +kernel
theorem dX11_learntOf_107 : decode cX11_learntOf 107 = .ok (.iadd, 1) := by decide +kernel
theorem dX11_learntOf_108 : decode cX11_learntOf 108 = .ok (.iadd, 1) := by decide +kernel
theorem dX11_learntOf_109 : decode cX11_learntOf 109 = .ok (.istore 4, 2) := by decide +kernel
theorem dX11_learntOf_111 : decode cX11_learntOf 111 = .ok (.iinc 7 1, 3) := by decide +kernel
theorem dX11_learntOf_114 : decode cX11_learntOf 114 = .ok (.goto (-102), 3) := by decide +kernel
theorem dX11_learntOf_117 : decode cX11_learntOf 117 = .ok (.sipush 1000, 3) := by decide +kernel
theorem dX11_learntOf_120 : decode cX11_learntOf 120 = .ok (.iload 5, 2) := by decide +kernel
theorem dX11_learntOf_122 : decode cX11_learntOf 122 = .ok (.imul, 1) := by decide +kernel
theorem dX11_learntOf_123 : decode cX11_learntOf 123 = .ok (.iload 4, 2) := by decide +kernel
theorem dX11_learntOf_125 : decode cX11_learntOf 125 = .ok (.idiv, 1) := by decide +kernel
theorem dX11_learntOf_126 : decode cX11_learntOf 126 = .ok (.istore 7, 2) := by decide +kernel
theorem dX11_learntOf_128 : decode cX11_learntOf 128 = .ok (.sipush 1000, 3) := by decide +kernel
theorem dX11_learntOf_131 : decode cX11_learntOf 131 = .ok (.iload 6, 2) := by decide +kernel
theorem dX11_learntOf_133 : decode cX11_learntOf 133 = .ok (.imul, 1) := by decide +kernel
theorem dX11_learntOf_134 : decode cX11_learntOf 134 = .ok (.iload 4, 2) := by decide +kernel
theorem dX11_learntOf_136 : decode cX11_learntOf 136 = .ok (.idiv, 1) := by decide +kernel
theorem dX11_learntOf_137 : decode cX11_learntOf 137 = .ok (.istore 8, 2) := by decide +kernel
theorem dX11_learntOf_139 : decode cX11_learntOf 139 = .ok (.iload_n 3, 1) := by decide +kernel
theorem dX11_learntOf_140 : decode cX11_learntOf 140 = .ok (.ifCond .ne 8, 3) := by decide +kernel
theorem dX11_learntOf_143 : decode cX11_learntOf 143 = .ok (.iload 7, 2) := by decide +kernel
theorem dX11_learntOf_145 : decode cX11_learntOf 145 = .ok (.goto 22, 3) := by decide +kernel
theorem dX11_learntOf_148 : decode cX11_learntOf 148 = .ok (.iload_n 3, 1) := by decide +kernel
theorem dX11_learntOf_149 : decode cX11_learntOf 149 = .ok (.iconst 1, 1) := by decide +kernel
theorem dX11_learntOf_150 : decode cX11_learntOf 150 = .ok (.if_icmp .ne 8, 3) := by decide +kernel
theorem dX11_learntOf_153 : decode cX11_learntOf 153 = .ok (.iload 8, 2) := by decide +kernel
theorem dX11_learntOf_155 : decode cX11_learntOf 155 = .ok (.goto 12, 3) := by decide +kernel
theorem dX11_learntOf_158 : decode cX11_learntOf 158 = .ok (.sipush 1000, 3) := by decide +kernel
theorem dX11_learntOf_161 : decode cX11_learntOf 161 = .ok (.iload 7, 2) := by decide +kernel
theorem dX11_learntOf_163 : decode cX11_learntOf 163 = .ok (.isub, 1) := by decide +kernel
theorem dX11_learntOf_164 : decode cX11_learntOf 164 = .ok (.iload 8, 2) := by decide +kernel
theorem dX11_learntOf_166 : decode cX11_learntOf 166 = .ok (.isub, 1) := by decide +kernel
theorem dX11_learntOf_167 : decode cX11_learntOf 167 = .ok (.ireturn, 1) := by decide +kernel
set_option maxRecDepth 20000 in
theorem ggX11_learnt_X11_isNight : GoodIn wsX11_learnt wsX11_isNight := goodIn_r _ [5, 6, 7, 8, 4, 9] (by decide +kernel) (by decide +kernel)
set_option maxRecDepth 20000 in
theorem gX11_learnt_X11_isNight : GoodIn wsX11_learnt (va_wsS RX11 278 yX11_isNight wsX11_isNight) := goodIn_app (goodIn_of _ (by decide +kernel)) ggX11_learnt_X11_isNight
set_option maxRecDepth 20000 in
theorem ggX11_learnt_X11_in : GoodIn wsX11_learnt wsX11_in := goodIn_r _ [9] (by decide +kernel) (by decide +kernel)
set_option maxRecDepth 20000 in
theorem gX11_learnt_X11_in : GoodIn wsX11_learnt (va_wsS RX11 126 yX11_in wsX11_in) := goodIn_app (goodIn_of _ (by decide +kernel)) ggX11_learnt_X11_in
set_option maxRecDepth 20000 in
theorem ggX11_learnt_X11_learntOf : GoodIn wsX11_learnt wsX11_learntOf := goodIn_r _ [13, 14, 15, 16, 17, 18, 19, 20, 21, 22, 23, 24, 25, 26, 27, 28, 29, 30, 31, 32, 33, 34, 35, 36, 37, 38, 39, 40, 41, 42, 43, 44, 45, 46, 47, 48, 49, 50, 51, 52, 53, 54, 55, 56, 57, 58, 59, 60, 61, 62, 63, 64, 65, 66, 67, 68, 69, 70, 71, 72, 73, 74, 75] (by decide +kernel) (by decide +kernel)
set_option maxRecDepth 20000 in
theorem gX11_learnt_X11_learntOf : GoodIn wsX11_learnt (wsV RX11 251 RX11 yX11_learntOf wsX11_learntOf) := goodIn_app (goodIn_of _ (by decide +kernel)) ggX11_learnt_X11_learntOf
theorem dX11_learnt_0 : decode cX11_learnt 0 = .ok (.iload_n 1, 1) := by decide +kernel
theorem dX11_learnt_1 : decode cX11_learnt 1 = .ok (.iload_n 2, 1) := by decide +kernel
theorem dX11_learnt_2 : decode cX11_learnt 2 = .ok (.invokestatic 278, 3) := by decide +kernel
theorem dX11_learnt_5 : decode cX11_learnt 5 = .ok (.ifCond .eq 25, 3) := by decide +kernel
theorem dX11_learnt_8 : decode cX11_learnt 8 = .ok (.iload_n 3, 1) := by decide +kernel
theorem dX11_learnt_9 : decode cX11_learnt 9 = .ok (.i2l, 1) := by decide +kernel
theorem dX11_learnt_10 : decode cX11_learnt 10 = .ok (.lconst 0, 1) := by decide +kernel
theorem dX11_learnt_11 : decode cX11_learnt 11 = .ok (.ldc2_w 236, 3) := by decide +kernel
theorem dX11_learnt_14 : decode cX11_learnt 14 = .ok (.invokestatic 126, 3) := by decide +kernel
theorem dX11_learnt_17 : decode cX11_learnt 17 = .ok (.ifCond .eq 13, 3) := by decide +kernel
theorem dX11_learnt_20 : decode cX11_learnt 20 = .ok (.aload_n 0, 1) := by decide +kernel
theorem dX11_learnt_21 : decode cX11_learnt 21 = .ok (.iload_n 1, 1) := by decide +kernel
theorem dX11_learnt_22 : decode cX11_learnt 22 = .ok (.iload_n 2, 1) := by decide +kernel
theorem dX11_learnt_23 : decode cX11_learnt 23 = .ok (.iload_n 3, 1) := by decide +kernel
theorem dX11_learnt_24 : decode cX11_learnt 24 = .ok (.invokevirtual 251, 3) := by decide +kernel
theorem dX11_learnt_27 : decode cX11_learnt 27 = .ok (.goto 6, 3) := by decide +kernel
theorem dX11_learnt_30 : decode cX11_learnt 30 = .ok (.sipush (-1002), 3) := by decide +kernel
theorem dX11_learnt_33 : decode cX11_learnt 33 = .ok (.ireturn, 1) := by decide +kernel
set_option maxRecDepth 20000 in
theorem ggX11_tonight_X11_isNight : GoodIn wsX11_tonight wsX11_isNight := goodIn_r _ [6, 7, 8, 9, 5, 10] (by decide +kernel) (by decide +kernel)
set_option maxRecDepth 20000 in
theorem gX11_tonight_X11_isNight : GoodIn wsX11_tonight (va_wsS RX11 278 yX11_isNight wsX11_isNight) := goodIn_app (goodIn_of _ (by decide +kernel)) ggX11_tonight_X11_isNight
theorem dX11_tonight_0 : decode cX11_tonight 0 = .ok (.iload_n 1, 1) := by decide +kernel
theorem dX11_tonight_1 : decode cX11_tonight 1 = .ok (.iconst (-1), 1) := by decide +kernel
theorem dX11_tonight_2 : decode cX11_tonight 2 = .ok (.if_icmp .eq 15, 3) := by decide +kernel
theorem dX11_tonight_5 : decode cX11_tonight 5 = .ok (.iload_n 1, 1) := by decide +kernel
theorem dX11_tonight_6 : decode cX11_tonight 6 = .ok (.iload_n 2, 1) := by decide +kernel
theorem dX11_tonight_7 : decode cX11_tonight 7 = .ok (.invokestatic 278, 3) := by decide +kernel
theorem dX11_tonight_10 : decode cX11_tonight 10 = .ok (.ifCond .ne 7, 3) := by decide +kernel
theorem dX11_tonight_13 : decode cX11_tonight 13 = .ok (.sipush (-1002), 3) := by decide +kernel
theorem dX11_tonight_16 : decode cX11_tonight 16 = .ok (.ireturn, 1) := by decide +kernel
theorem dX11_tonight_17 : decode cX11_tonight 17 = .ok (.aload_n 0, 1) := by decide +kernel
theorem dX11_tonight_18 : decode cX11_tonight 18 = .ok (.iload_n 1, 1) := by decide +kernel
theorem dX11_tonight_19 : decode cX11_tonight 19 = .ok (.putfield 65, 3) := by decide +kernel
theorem dX11_tonight_22 : decode cX11_tonight 22 = .ok (.aload_n 0, 1) := by decide +kernel
theorem dX11_tonight_23 : decode cX11_tonight 23 = .ok (.iload_n 1, 1) := by decide +kernel
theorem dX11_tonight_24 : decode cX11_tonight 24 = .ok (.iconst (-1), 1) := by decide +kernel
theorem dX11_tonight_25 : decode cX11_tonight 25 = .ok (.if_icmp .ne 7, 3) := by decide +kernel
theorem dX11_tonight_28 : decode cX11_tonight 28 = .ok (.iconst 0, 1) := by decide +kernel
theorem dX11_tonight_29 : decode cX11_tonight 29 = .ok (.goto 4, 3) := by decide +kernel
theorem dX11_tonight_32 : decode cX11_tonight 32 = .ok (.iload_n 2, 1) := by decide +kernel
theorem dX11_tonight_33 : decode cX11_tonight 33 = .ok (.putfield 248, 3) := by decide +kernel
theorem dX11_tonight_36 : decode cX11_tonight 36 = .ok (.iconst 1, 1) := by decide +kernel
theorem dX11_tonight_37 : decode cX11_tonight 37 = .ok (.ireturn, 1) := by decide +kernel
theorem dX11_addEvent_0 : decode cX11_addEvent 0 = .ok (.bipush 7, 2) := by decide +kernel
theorem dX11_addEvent_2 : decode cX11_addEvent 2 = .ok (.aload_n 0, 1) := by decide +kernel
theorem dX11_addEvent_3 : decode cX11_addEvent 3 = .ok (.getfield 215, 3) := by decide +kernel
theorem dX11_addEvent_6 : decode cX11_addEvent 6 = .ok (.imul, 1) := by decide +kernel
theorem dX11_addEvent_7 : decode cX11_addEvent 7 = .ok (.istore 8, 2) := by decide +kernel
theorem dX11_addEvent_9 : decode cX11_addEvent 9 = .ok (.aload_n 0, 1) := by decide +kernel
theorem dX11_addEvent_10 : decode cX11_addEvent 10 = .ok (.getfield 84, 3) := by decide +kernel
theorem dX11_addEvent_13 : decode cX11_addEvent 13 = .ok (.iload 8, 2) := by decide +kernel
theorem dX11_addEvent_15 : decode cX11_addEvent 15 = .ok (.iload_n 1, 1) := by decide +kernel
theorem dX11_addEvent_16 : decode cX11_addEvent 16 = .ok (.iastore, 1) := by decide +kernel
theorem dX11_addEvent_17 : decode cX11_addEvent 17 = .ok (.aload_n 0, 1) := by decide +kernel
theorem dX11_addEvent_18 : decode cX11_addEvent 18 = .ok (.getfield 84, 3) := by decide +kernel
theorem dX11_addEvent_21 : decode cX11_addEvent 21 = .ok (.iload 8, 2) := by decide +kernel
theorem dX11_addEvent_23 : decode cX11_addEvent 23 = .ok (.iconst 1, 1) := by decide +kernel
theorem dX11_addEvent_24 : decode cX11_addEvent 24 = .ok (.iadd, 1) := by decide +kernel
theorem dX11_addEvent_25 : decode cX11_addEvent 25 = .ok (.iload_n 2, 1) := by decide +kernel
theorem dX11_addEvent_26 : decode cX11_addEvent 26 = .ok (.iastore, 1) := by decide +kernel
theorem dX11_addEvent_27 : decode cX11_addEvent 27 = .ok (.aload_n 0, 1) := by decide +kernel
theorem dX11_addEvent_28 : decode cX11_addEvent 28 = .ok (.getfield 84, 3) := by decide +kernel
theorem dX11_addEvent_31 : decode cX11_addEvent 31 = .ok (.iload 8, 2) := by decide +kernel
theorem dX11_addEvent_33 : decode cX11_addEvent 33 = .ok (.iconst 2, 1) := by decide +kernel
theorem dX11_addEvent_34 : decode cX11_addEvent 34 = .ok (.iadd, 1) := by decide +kernel
theorem dX11_addEvent_35 : decode cX11_addEvent 35 = .ok (.iload_n 3, 1) := by decide +kernel
theorem dX11_addEvent_36 : decode cX11_addEvent 36 = .ok (.iastore, 1) := by decide +kernel
theorem dX11_addEvent_37 : decode cX11_addEvent 37 = .ok (.aload_n 0, 1) := by decide +kernel
theorem dX11_addEvent_38 : decode cX11_addEvent 38 = .ok (.getfield 84, 3) := by decide +kernel
theorem dX11_addEvent_41 : decode cX11_addEvent 41 = .ok (.iload 8, 2) := by decide +kernel
theorem dX11_addEvent_43 : decode cX11_addEvent 43 = .ok (.iconst 3, 1) := by decide +kernel
theorem dX11_addEvent_44 : decode cX11_addEvent 44 = .ok (.iadd, 1) := by decide +kernel
theorem dX11_addEvent_45 : decode cX11_addEvent 45 = .ok (.iload 4, 2) := by decide +kernel
theorem dX11_addEvent_47 : decode cX11_addEvent 47 = .ok (.iastore, 1) := by decide +kernel
theorem dX11_addEvent_48 : decode cX11_addEvent 48 = .ok (.aload_n 0, 1) := by decide +kernel
theorem dX11_addEvent_49 : decode cX11_addEvent 49 = .ok (.getfield 84, 3) := by decide +kernel
theorem dX11_addEvent_52 : decode cX11_addEvent 52 = .ok (.iload 8, 2) := by decide +kernel
theorem dX11_addEvent_54 : decode cX11_addEvent 54 = .ok (.iconst 4, 1) := by decide +kernel
theorem dX11_addEvent_55 : decode cX11_addEvent 55 = .ok (.iadd, 1) := by decide +kernel
theorem dX11_addEvent_56 : decode cX11_addEvent 56 = .ok (.iload 5, 2) := by decide +kernel
theorem dX11_addEvent_58 : decode cX11_addEvent 58 = .ok (.iastore, 1) := by decide +kernel
theorem dX11_addEvent_59 : decode cX11_addEvent 59 = .ok (.aload_n 0, 1) := by decide +kernel
theorem dX11_addEvent_60 : decode cX11_addEvent 60 = .ok (.getfield 84, 3) := by decide +kernel
theorem dX11_addEvent_63 : decode cX11_addEvent 63 = .ok (.iload 8, 2) := by decide +kernel
theorem dX11_addEvent_65 : decode cX11_addEvent 65 = .ok (.iconst 5, 1) := by decide +kernel
theorem dX11_addEvent_66 : decode cX11_addEvent 66 = .ok (.iadd, 1) := by decide +kernel
theorem dX11_addEvent_67 : decode cX11_addEvent 67 = .ok (.iload 6, 2) := by decide +kernel
theorem dX11_addEvent_69 : decode cX11_addEvent 69 = .ok (.iastore, 1) := by decide +kernel
theorem dX11_addEvent_70 : decode cX11_addEvent 70 = .ok (.aload_n 0, 1) := by decide +kernel
theorem dX11_addEvent_71 : decode cX11_addEvent 71 = .ok (.getfield 84, 3) := by decide +kernel
theorem dX11_addEvent_74 : decode cX11_addEvent 74 = .ok (.iload 8, 2) := by decide +kernel
theorem dX11_addEvent_76 : decode cX11_addEvent 76 = .ok (.bipush 6, 2) := by decide +kernel
theorem dX11_addEvent_78 : decode cX11_addEvent 78 = .ok (.iadd, 1) := by decide +kernel
theorem dX11_addEvent_79 : decode cX11_addEvent 79 = .ok (.iload 7, 2) := by decide +kernel
theorem dX11_addEvent_81 : decode cX11_addEvent 81 = .ok (.ifCond .eq 7, 3) := by decide +kernel
theorem dX11_addEvent_84 : decode cX11_addEvent 84 = .ok (.iconst 1, 1) := by decide +kernel
theorem dX11_addEvent_85 : decode cX11_addEvent 85 = .ok (.goto 4, 3) := by decide +kernel
theorem dX11_addEvent_88 : decode cX11_addEvent 88 = .ok (.iconst 0, 1) := by decide +kernel
theorem dX11_addEvent_89 : decode cX11_addEvent 89 = .ok (.iastore, 1) := by decide +kernel
theorem dX11_addEvent_90 : decode cX11_addEvent 90 = .ok (.aload_n 0, 1) := by decide +kernel
theorem dX11_addEvent_91 : decode cX11_addEvent 91 = .ok (.dup, 1) := by decide +kernel
theorem dX11_addEvent_92 : decode cX11_addEvent 92 = .ok (.getfield 215, 3) := by decide +kernel
theorem dX11_addEvent_95 : decode cX11_addEvent 95 = .ok (.iconst 1, 1) := by decide +kernel
theorem dX11_addEvent_96 : decode cX11_addEvent 96 = .ok (.iadd, 1) := by decide +kernel
theorem dX11_addEvent_97 : decode cX11_addEvent 97 = .ok (.putfield 215, 3) := by decide +kernel
theorem dX11_addEvent_100 : decode cX11_addEvent 100 = .ok (.aload_n 0, 1) := by decide +kernel
theorem dX11_addEvent_101 : decode cX11_addEvent 101 = .ok (.getfield 215, 3) := by decide +kernel
theorem dX11_addEvent_104 : decode cX11_addEvent 104 = .ok (.iconst 1, 1) := by decide +kernel
theorem dX11_addEvent_105 : decode cX11_addEvent 105 = .ok (.isub, 1) := by decide +kernel
theorem dX11_addEvent_106 : decode cX11_addEvent 106 = .ok (.ireturn, 1) := by decide +kernel
set_option maxRecDepth 20000 in
theorem ggX11_isHand_X11_in : GoodIn wsX11_isHand wsX11_in := goodIn_r _ [5] (by decide +kernel) (by decide +kernel)
set_option maxRecDepth 20000 in
theorem gX11_isHand_X11_in : GoodIn wsX11_isHand (va_wsS RX11 126 yX11_in wsX11_in) := goodIn_app (goodIn_of _ (by decide +kernel)) ggX11_isHand_X11_in
theorem dX11_isHand_0 : decode cX11_isHand 0 = .ok (.iload_n 0, 1) := by decide +kernel
theorem dX11_isHand_1 : decode cX11_isHand 1 = .ok (.i2l, 1) := by decide +kernel
theorem dX11_isHand_2 : decode cX11_isHand 2 = .ok (.lconst 0, 1) := by decide +kernel
theorem dX11_isHand_3 : decode cX11_isHand 3 = .ok (.ldc2_w 234, 3) := by decide +kernel
theorem dX11_isHand_6 : decode cX11_isHand 6 = .ok (.invokestatic 126, 3) := by decide +kernel
theorem dX11_isHand_9 : decode cX11_isHand 9 = .ok (.ireturn, 1) := by decide +kernel
theorem dX11_isBrassOut_0 : decode cX11_isBrassOut 0 = .ok (.iconst 0, 1) := by decide +kernel
theorem dX11_isBrassOut_1 : decode cX11_isBrassOut 1 = .ok (.istore_n 2, 1) := by decide +kernel
theorem dX11_isBrassOut_2 : decode cX11_isBrassOut 2 = .ok (.iconst 0, 1) := by decide +kernel
theorem dX11_isBrassOut_3 : decode cX11_isBrassOut 3 = .ok (.istore_n 3, 1) := by decide +kernel
theorem dX11_isBrassOut_4 : decode cX11_isBrassOut 4 = .ok (.iload_n 3, 1) := by decide +kernel
theorem dX11_isBrassOut_5 : decode cX11_isBrassOut 5 = .ok (.aload_n 0, 1) := by decide +kernel
theorem dX11_isBrassOut_6 : decode cX11_isBrassOut 6 = .ok (.getfield 227, 3) := by decide +kernel
theorem dX11_isBrassOut_9 : decode cX11_isBrassOut 9 = .ok (.if_icmp .ge 29, 3) := by decide +kernel
theorem dX11_isBrassOut_12 : decode cX11_isBrassOut 12 = .ok (.iload_n 2, 1) := by decide +kernel
theorem dX11_isBrassOut_13 : decode cX11_isBrassOut 13 = .ok (.ifCond .ne 13, 3) := by decide +kernel
theorem dX11_isBrassOut_16 : decode cX11_isBrassOut 16 = .ok (.aload_n 0, 1) := by decide +kernel
theorem dX11_isBrassOut_17 : decode cX11_isBrassOut 17 = .ok (.getfield 56, 3) := by decide +kernel
theorem dX11_isBrassOut_20 : decode cX11_isBrassOut 20 = .ok (.iload_n 3, 1) := by decide +kernel
theorem dX11_isBrassOut_21 : decode cX11_isBrassOut 21 = .ok (.iaload, 1) := by decide +kernel
theorem dX11_isBrassOut_22 : decode cX11_isBrassOut 22 = .ok (.iload_n 1, 1) := by decide +kernel
theorem dX11_isBrassOut_23 : decode cX11_isBrassOut 23 = .ok (.if_icmp .ne 7, 3) := by decide +kernel
theorem dX11_isBrassOut_26 : decode cX11_isBrassOut 26 = .ok (.iconst 1, 1) := by decide +kernel
theorem dX11_isBrassOut_27 : decode cX11_isBrassOut 27 = .ok (.goto 4, 3) := by decide +kernel
theorem dX11_isBrassOut_30 : decode cX11_isBrassOut 30 = .ok (.iconst 0, 1) := by decide +kernel
theorem dX11_isBrassOut_31 : decode cX11_isBrassOut 31 = .ok (.istore_n 2, 1) := by decide +kernel
theorem dX11_isBrassOut_32 : decode cX11_isBrassOut 32 = .ok (.iinc 3 1, 3) := by decide +kernel
theorem dX11_isBrassOut_35 : decode cX11_isBrassOut 35 = .ok (.goto (-31), 3) := by decide +kernel
theorem dX11_isBrassOut_38 : decode cX11_isBrassOut 38 = .ok (.iload_n 2, 1) := by decide +kernel
theorem dX11_isBrassOut_39 : decode cX11_isBrassOut 39 = .ok (.ireturn, 1) := by decide +kernel
set_option maxRecDepth 20000 in
theorem ggX11_hang_X11_isHand : GoodIn wsX11_hang wsX11_isHand := goodIn_r _ [11, 12, 13, 14, 10, 15] (by decide +kernel) (by decide +kernel)
set_option maxRecDepth 20000 in
theorem gX11_hang_X11_isHand : GoodIn wsX11_hang (va_wsS RX11 284 yX11_isHand wsX11_isHand) := goodIn_app (goodIn_of _ (by decide +kernel)) ggX11_hang_X11_isHand
set_option maxRecDepth 20000 in
theorem ggX11_hang_X11_isGuest : GoodIn wsX11_hang wsX11_isGuest := goodIn_r _ [19, 20, 13, 14, 10, 15, 41, 42, 43, 44, 45, 46, 47, 48, 49, 50, 51, 52, 53, 54, 55, 56, 57, 58, 59, 60, 61, 62, 63, 64, 65, 66, 67, 68, 69, 70, 71, 72, 73, 74, 75, 76, 77, 78, 79, 80, 81, 82, 83, 84, 85, 86, 87, 88, 89, 90, 91, 92, 93, 94, 95, 96, 97, 98] (by decide +kernel) (by decide +kernel)
set_option maxRecDepth 20000 in
theorem gX11_hang_X11_isGuest : GoodIn wsX11_hang (wsV RX11 255 RX11 yX11_isGuest wsX11_isGuest) := goodIn_app (goodIn_of _ (by decide +kernel)) ggX11_hang_X11_isGuest
set_option maxRecDepth 20000 in
theorem ggX11_hang_X11_isPeg : GoodIn wsX11_hang wsX11_isPeg := goodIn_r _ [24, 25, 13, 14, 10, 15, 41, 42, 43, 44, 45, 46, 47, 48, 49, 50, 51, 52, 53, 54, 55, 56, 57, 58, 59, 60, 61, 62, 63, 64, 65, 66, 67, 68, 69, 70, 71, 72, 73, 74, 75, 76, 77, 78, 79, 80, 81, 82, 83, 84, 85, 86, 87, 88, 89, 90, 91, 92, 93, 94, 95, 96, 97, 98] (by decide +kernel) (by decide +kernel)
set_option maxRecDepth 20000 in
theorem gX11_hang_X11_isPeg : GoodIn wsX11_hang (wsV RX11 230 RX11 yX11_isPeg wsX11_isPeg) := goodIn_app (goodIn_of _ (by decide +kernel)) ggX11_hang_X11_isPeg
set_option maxRecDepth 20000 in
theorem ggX11_hang_X11_in : GoodIn wsX11_hang wsX11_in := goodIn_r _ [15] (by decide +kernel) (by decide +kernel)
set_option maxRecDepth 20000 in
theorem gX11_hang_X11_in : GoodIn wsX11_hang (va_wsS RX11 126 yX11_in wsX11_in) := goodIn_app (goodIn_of _ (by decide +kernel)) ggX11_hang_X11_in
set_option maxRecDepth 20000 in
theorem ggX11_hang_X11_hasClaim : GoodIn wsX11_hang wsX11_hasClaim := goodIn_r _ [29, 30, 31, 41, 42, 43, 44, 45, 46, 47, 48, 49, 50, 51, 52, 53, 54, 55, 56, 57, 58, 59, 60, 61, 62, 63, 64, 65, 66, 67, 68, 69, 70, 71, 72, 73, 74, 75, 76, 77, 78, 79, 80, 81, 82, 83, 84, 85, 86, 87, 88, 89, 90, 91, 92, 93, 94, 95, 96, 97, 98] (by decide +kernel) (by decide +kernel)
set_option maxRecDepth 20000 in
theorem gX11_hang_X11_hasClaim : GoodIn wsX11_hang (wsV RX11 289 RX11 yX11_hasClaim wsX11_hasClaim) := goodIn_app (goodIn_of _ (by decide +kernel)) ggX11_hang_X11_hasClaim
set_option maxRecDepth 20000 in
theorem ggX11_hang_X11_isBrassOut : GoodIn wsX11_hang wsX11_isBrassOut := goodIn_r _ [35, 20, 7, 41, 42, 43, 44, 45, 46, 47, 48, 49, 50, 51, 52, 53, 54, 55, 56, 57, 58, 59, 60, 61, 62, 63, 64, 65, 66, 67, 68, 69, 70, 71, 72, 73, 74, 75, 76, 77, 78, 79, 80, 81, 82, 83, 84, 85, 86, 87, 88, 89, 90, 91, 92, 93, 94, 95, 96, 97, 98] (by decide +kernel) (by decide +kernel)
set_option maxRecDepth 20000 in
theorem gX11_hang_X11_isBrassOut : GoodIn wsX11_hang (wsV RX11 292 RX11 yX11_isBrassOut wsX11_isBrassOut) := goodIn_app (goodIn_of _ (by decide +kernel)) ggX11_hang_X11_isBrassOut
set_option maxRecDepth 20000 in
theorem ggX11_hang_X11_addEvent : GoodIn wsX11_hang wsX11_addEvent := goodIn_r _ [39, 6, 40, 41, 42, 43, 44, 45, 46, 47, 48, 49, 50, 51, 52, 53, 54, 55, 56, 57, 58, 59, 60, 61, 62, 63, 64, 65, 66, 67, 68, 69, 70, 71, 72, 73, 74, 75, 76, 77, 78, 79, 80, 81, 82, 83, 84, 85, 86, 87, 88, 89, 90, 91, 92, 93, 94, 95, 96, 97, 98] (by decide +kernel) (by decide +kernel)
set_option maxRecDepth 20000 in
theorem gX11_hang_X11_addEvent : GoodIn wsX11_hang (wsV RX11 295 RX11 yX11_addEvent wsX11_addEvent) := goodIn_app (goodIn_of _ (by decide +kernel)) ggX11_hang_X11_addEvent
theorem dX11_hang_0 : decode cX11_hang 0 = .ok (.iload_n 1, 1) := by decide +kernel
theorem dX11_hang_1 : decode cX11_hang 1 = .ok (.invokestatic 284, 3) := by decide +kernel
theorem dX11_hang_4 : decode cX11_hang 4 = .ok (.ifCond .eq 19, 3) := by decide +kernel
theorem dX11_hang_7 : decode cX11_hang 7 = .ok (.aload_n 0, 1) := by decide +kernel
theorem dX11_hang_8 : decode cX11_hang 8 = .ok (.iload_n 2, 1) := by decide +kernel
theorem dX11_hang_9 : decode cX11_hang 9 = .ok (.invokevirtual 255, 3) := by decide +kernel
theorem dX11_hang_12 : decode cX11_hang 12 = .ok (.ifCond .eq 11, 3) := by decide +kernel
theorem dX11_hang_15 : decode cX11_hang 15 = .ok (.aload_n 0, 1) := by decide +kernel
theorem dX11_hang_16 : decode cX11_hang 16 = .ok (.iload_n 3, 1) := by decide +kernel
theorem dX11_hang_17 : decode cX11_hang 17 = .ok (.invokevirtual 230, 3) := by decide +kernel
theorem dX11_hang_20 : decode cX11_hang 20 = .ok (.ifCond .ne 7, 3) := by decide +kernel
theorem dX11_hang_23 : decode cX11_hang 23 = .ok (.sipush (-1001), 3) := by decide +kernel
theorem dX11_hang_26 : decode cX11_hang 26 = .ok (.ireturn, 1) := by decide +kernel
theorem dX11_hang_27 : decode cX11_hang 27 = .ok (.iload 4, 2) := by decide +kernel
theorem dX11_hang_29 : decode cX11_hang 29 = .ok (.i2l, 1) := by decide +kernel
theorem dX11_hang_30 : decode cX11_hang 30 = .ok (.lconst 0, 1) := by decide +kernel
theorem dX11_hang_31 : decode cX11_hang 31 = .ok (.ldc2_w 287, 3) := by decide +kernel
theorem dX11_hang_34 : decode cX11_hang 34 = .ok (.invokestatic 126, 3) := by decide +kernel
theorem dX11_hang_37 : decode cX11_hang 37 = .ok (.ifCond .ne 7, 3) := by decide +kernel
theorem dX11_hang_40 : decode cX11_hang 40 = .ok (.sipush (-1002), 3) := by decide +kernel
theorem dX11_hang_43 : decode cX11_hang 43 = .ok (.ireturn, 1) := by decide +kernel
theorem dX11_hang_44 : decode cX11_hang 44 = .ok (.aload_n 0, 1) := by decide +kernel
theorem dX11_hang_45 : decode cX11_hang 45 = .ok (.getfield 62, 3) := by decide +kernel
theorem dX11_hang_48 : decode cX11_hang 48 = .ok (.iload_n 2, 1) := by decide +kernel
theorem dX11_hang_49 : decode cX11_hang 49 = .ok (.iaload, 1) := by decide +kernel
theorem dX11_hang_50 : decode cX11_hang 50 = .ok (.ifCond .ge 44, 3) := by decide +kernel
theorem dX11_hang_53 : decode cX11_hang 53 = .ok (.aload_n 0, 1) := by decide +kernel
theorem dX11_hang_54 : decode cX11_hang 54 = .ok (.iload_n 2, 1) := by decide +kernel
theorem dX11_hang_55 : decode cX11_hang 55 = .ok (.invokevirtual 289, 3) := by decide +kernel
theorem dX11_hang_58 : decode cX11_hang 58 = .ok (.ifCond .ne 36, 3) := by decide +kernel
theorem dX11_hang_61 : decode cX11_hang 61 = .ok (.aload_n 0, 1) := by decide +kernel
theorem dX11_hang_62 : decode cX11_hang 62 = .ok (.getfield 7, 3) := by decide +kernel
theorem dX11_hang_65 : decode cX11_hang 65 = .ok (.iload_n 3, 1) := by decide +kernel
theorem dX11_hang_66 : decode cX11_hang 66 = .ok (.iaload, 1) := by decide +kernel
theorem dX11_hang_67 : decode cX11_hang 67 = .ok (.aload_n 0, 1) := by decide +kernel
theorem dX11_hang_68 : decode cX11_hang 68 = .ok (.getfield 47, 3) := by decide +kernel
theorem dX11_hang_71 : decode cX11_hang 71 = .ok (.iload_n 2, 1) := by decide +kernel
theorem dX11_hang_72 : decode cX11_hang 72 = .ok (.iaload, 1) := by decide +kernel
theorem dX11_hang_73 : decode cX11_hang 73 = .ok (.if_icmp .ne 21, 3) := by decide +kernel
theorem dX11_hang_76 : decode cX11_hang 76 = .ok (.aload_n 0, 1) := by decide +kernel
theorem dX11_hang_77 : decode cX11_hang 77 = .ok (.getfield 41, 3) := by decide +kernel
theorem dX11_hang_80 : decode cX11_hang 80 = .ok (.iload_n 3, 1) := by decide +kernel
theorem dX11_hang_81 : decode cX11_hang 81 = .ok (.iaload, 1) := by decide +kernel
theorem dX11_hang_82 : decode cX11_hang 82 = .ok (.ifCond .ge 12, 3) := by decide +kernel
theorem dX11_hang_85 : decode cX11_hang 85 = .ok (.aload_n 0, 1) := by decide +kernel
theorem dX11_hang_86 : decode cX11_hang 86 = .ok (.iload 4, 2) := by decide +kernel
theorem dX11_hang_88 : decode cX11_hang 88 = .ok (.invokevirtual 292, 3) := by decide +kernel
theorem dX11_hang_91 : decode cX11_hang 91 = .ok (.ifCond .eq 7, 3) := by decide +kernel
theorem dX11_hang_94 : decode cX11_hang 94 = .ok (.sipush (-1003), 3) := by decide +kernel
theorem dX11_hang_97 : decode cX11_hang 97 = .ok (.ireturn, 1) := by decide +kernel
theorem dX11_hang_98 : decode cX11_hang 98 = .ok (.aload_n 0, 1) := by decide +kernel
theorem dX11_hang_99 : decode cX11_hang 99 = .ok (.getfield 215, 3) := by decide +kernel
theorem dX11_hang_102 : decode cX11_hang 102 = .ok (.bipush 60, 2) := by decide +kernel
theorem dX11_hang_104 : decode cX11_hang 104 = .ok (.if_icmp .ne 7, 3) := by decide +kernel
theorem dX11_hang_107 : decode cX11_hang 107 = .ok (.sipush (-1004), 3) := by decide +kernel
theorem dX11_hang_110 : decode cX11_hang 110 = .ok (.ireturn, 1) := by decide +kernel
theorem dX11_hang_111 : decode cX11_hang 111 = .ok (.aload_n 0, 1) := by decide +kernel
theorem dX11_hang_112 : decode cX11_hang 112 = .ok (.getfield 41, 3) := by decide +kernel
theorem dX11_hang_115 : decode cX11_hang 115 = .ok (.iload_n 3, 1) := by decide +kernel
theorem dX11_hang_116 : decode cX11_hang 116 = .ok (.iload_n 2, 1) := by decide +kernel
theorem dX11_hang_117 : decode cX11_hang 117 = .ok (.iastore, 1) := by decide +kernel
theorem dX11_hang_118 : decode cX11_hang 118 = .ok (.aload_n 0, 1) := by decide +kernel
theorem dX11_hang_119 : decode cX11_hang 119 = .ok (.getfield 56, 3) := by decide +kernel
theorem dX11_hang_122 : decode cX11_hang 122 = .ok (.iload_n 2, 1) := by decide +kernel
theorem dX11_hang_123 : decode cX11_hang 123 = .ok (.iload 4, 2) := by decide +kernel
theorem dX11_hang_125 : decode cX11_hang 125 = .ok (.iastore, 1) := by decide +kernel
theorem dX11_hang_126 : decode cX11_hang 126 = .ok (.aload_n 0, 1) := by decide +kernel
theorem dX11_hang_127 : decode cX11_hang 127 = .ok (.getfield 62, 3) := by decide +kernel
theorem dX11_hang_130 : decode cX11_hang 130 = .ok (.iload_n 2, 1) := by decide +kernel
theorem dX11_hang_131 : decode cX11_hang 131 = .ok (.aload_n 0, 1) := by decide +kernel
theorem dX11_hang_132 : decode cX11_hang 132 = .ok (.getfield 215, 3) := by decide +kernel
theorem dX11_hang_135 : decode cX11_hang 135 = .ok (.iastore, 1) := by decide +kernel
theorem dX11_hang_136 : decode cX11_hang 136 = .ok (.aload_n 0, 1) := by decide +kernel
theorem dX11_hang_137 : decode cX11_hang 137 = .ok (.iconst 0, 1) := by decide +kernel
theorem dX11_hang_138 : decode cX11_hang 138 = .ok (.iload_n 1, 1) := by decide +kernel
theorem dX11_hang_139 : decode cX11_hang 139 = .ok (.iload_n 2, 1) := by decide +kernel
theorem dX11_hang_140 : decode cX11_hang 140 = .ok (.iload_n 3, 1) := by decide +kernel
theorem dX11_hang_141 : decode cX11_hang 141 = .ok (.iload 4, 2) := by decide +kernel
theorem dX11_hang_143 : decode cX11_hang 143 = .ok (.iload_n 2, 1) := by decide +kernel
theorem dX11_hang_144 : decode cX11_hang 144 = .ok (.iload 4, 2) := by decide +kernel
theorem dX11_hang_146 : decode cX11_hang 146 = .ok (.iload_n 3, 1) := by decide +kernel
theorem dX11_hang_147 : decode cX11_hang 147 = .ok (.if_icmp .eq 7, 3) := by decide +kernel
theorem dX11_hang_150 : decode cX11_hang 150 = .ok (.iconst 1, 1) := by decide +kernel
theorem dX11_hang_151 : decode cX11_hang 151 = .ok (.goto 4, 3) := by decide +kernel
theorem dX11_hang_154 : decode cX11_hang 154 = .ok (.iconst 0, 1) := by decide +kernel
theorem dX11_hang_155 : decode cX11_hang 155 = .ok (.invokevirtual 295, 3) := by decide +kernel
theorem dX11_hang_158 : decode cX11_hang 158 = .ok (.ireturn, 1) := by decide +kernel
set_option maxRecDepth 20000 in
theorem ggX11_give_X11_isHand : GoodIn wsX11_give wsX11_isHand := goodIn_r _ [8, 9, 10, 11, 7, 12] (by decide +kernel) (by decide +kernel)
set_option maxRecDepth 20000 in
theorem gX11_give_X11_isHand : GoodIn wsX11_give (va_wsS RX11 284 yX11_isHand wsX11_isHand) := goodIn_app (goodIn_of _ (by decide +kernel)) ggX11_give_X11_isHand
set_option maxRecDepth 20000 in
theorem ggX11_give_X11_isGuest : GoodIn wsX11_give wsX11_isGuest := goodIn_r _ [16, 17, 10, 11, 7, 12, 28, 29, 30, 31, 32, 33, 34, 35, 36, 37, 38, 39, 40, 41, 42, 43, 44, 45, 46, 47, 48, 49, 50, 51, 52, 53, 54, 55, 56, 57, 58, 59, 60, 61, 62, 63, 64, 65, 66, 67, 68, 69, 70, 71, 72, 73, 74, 75, 76, 77, 78, 79, 80, 81, 82, 83, 84, 85] (by decide +kernel) (by decide +kernel)
set_option maxRecDepth 20000 in
theorem gX11_give_X11_isGuest : GoodIn wsX11_give (wsV RX11 255 RX11 yX11_isGuest wsX11_isGuest) := goodIn_app (goodIn_of _ (by decide +kernel)) ggX11_give_X11_isGuest
set_option maxRecDepth 20000 in
theorem ggX11_give_X11_isPeg : GoodIn wsX11_give wsX11_isPeg := goodIn_r _ [21, 22, 10, 11, 7, 12, 28, 29, 30, 31, 32, 33, 34, 35, 36, 37, 38, 39, 40, 41, 42, 43, 44, 45, 46, 47, 48, 49, 50, 51, 52, 53, 54, 55, 56, 57, 58, 59, 60, 61, 62, 63, 64, 65, 66, 67, 68, 69, 70, 71, 72, 73, 74, 75, 76, 77, 78, 79, 80, 81, 82, 83, 84, 85] (by decide +kernel) (by decide +kernel)
set_option maxRecDepth 20000 in
theorem gX11_give_X11_isPeg : GoodIn wsX11_give (wsV RX11 230 RX11 yX11_isPeg wsX11_isPeg) := goodIn_app (goodIn_of _ (by decide +kernel)) ggX11_give_X11_isPeg
set_option maxRecDepth 20000 in
theorem ggX11_give_X11_addEvent : GoodIn wsX11_give wsX11_addEvent := goodIn_r _ [26, 4, 27, 28, 29, 30, 31, 32, 33, 34, 35, 36, 37, 38, 39, 40, 41, 42, 43, 44, 45, 46, 47, 48, 49, 50, 51, 52, 53, 54, 55, 56, 57, 58, 59, 60, 61, 62, 63, 64, 65, 66, 67, 68, 69, 70, 71, 72, 73, 74, 75, 76, 77, 78, 79, 80, 81, 82, 83, 84, 85] (by decide +kernel) (by decide +kernel)
set_option maxRecDepth 20000 in
theorem gX11_give_X11_addEvent : GoodIn wsX11_give (wsV RX11 295 RX11 yX11_addEvent wsX11_addEvent) := goodIn_app (goodIn_of _ (by decide +kernel)) ggX11_give_X11_addEvent
theorem dX11_give_0 : decode cX11_give 0 = .ok (.iload_n 1, 1) := by decide +kernel
theorem dX11_give_1 : decode cX11_give 1 = .ok (.invokestatic 284, 3) := by decide +kernel
theorem dX11_give_4 : decode cX11_give 4 = .ok (.ifCond .eq 19, 3) := by decide +kernel
theorem dX11_give_7 : decode cX11_give 7 = .ok (.aload_n 0, 1) := by decide +kernel
theorem dX11_give_8 : decode cX11_give 8 = .ok (.iload_n 2, 1) := by decide +kernel
theorem dX11_give_9 : decode cX11_give 9 = .ok (.invokevirtual 255, 3) := by decide +kernel
theorem dX11_give_12 : decode cX11_give 12 = .ok (.ifCond .eq 11, 3) := by decide +kernel
theorem dX11_give_15 : decode cX11_give 15 = .ok (.aload_n 0, 1) := by decide +kernel
theorem dX11_give_16 : decode cX11_give 16 = .ok (.iload_n 3, 1) := by decide +kernel
theorem dX11_give_17 : decode cX11_give 17 = .ok (.invokevirtual 230, 3) := by decide +kernel
theorem dX11_give_20 : decode cX11_give 20 = .ok (.ifCond .ne 7, 3) := by decide +kernel
theorem dX11_give_23 : decode cX11_give 23 = .ok (.sipush (-1001), 3) := by decide +kernel
theorem dX11_give_26 : decode cX11_give 26 = .ok (.ireturn, 1) := by decide +kernel
theorem dX11_give_27 : decode cX11_give 27 = .ok (.aload_n 0, 1) := by decide +kernel
theorem dX11_give_28 : decode cX11_give 28 = .ok (.getfield 56, 3) := by decide +kernel
theorem dX11_give_31 : decode cX11_give 31 = .ok (.iload_n 2, 1) := by decide +kernel
theorem dX11_give_32 : decode cX11_give 32 = .ok (.iaload, 1) := by decide +kernel
theorem dX11_give_33 : decode cX11_give 33 = .ok (.ifCond .lt 21, 3) := by decide +kernel
theorem dX11_give_36 : decode cX11_give 36 = .ok (.aload_n 0, 1) := by decide +kernel
theorem dX11_give_37 : decode cX11_give 37 = .ok (.getfield 59, 3) := by decide +kernel
theorem dX11_give_40 : decode cX11_give 40 = .ok (.iload_n 2, 1) := by decide +kernel
theorem dX11_give_41 : decode cX11_give 41 = .ok (.iaload, 1) := by decide +kernel
theorem dX11_give_42 : decode cX11_give 42 = .ok (.ifCond .ge 12, 3) := by decide +kernel
theorem dX11_give_45 : decode cX11_give 45 = .ok (.aload_n 0, 1) := by decide +kernel
theorem dX11_give_46 : decode cX11_give 46 = .ok (.getfield 41, 3) := by decide +kernel
theorem dX11_give_49 : decode cX11_give 49 = .ok (.iload_n 3, 1) := by decide +kernel
theorem dX11_give_50 : decode cX11_give 50 = .ok (.iaload, 1) := by decide +kernel
theorem dX11_give_51 : decode cX11_give 51 = .ok (.ifCond .ge 7, 3) := by decide +kernel
theorem dX11_give_54 : decode cX11_give 54 = .ok (.sipush (-1003), 3) := by decide +kernel
theorem dX11_give_57 : decode cX11_give 57 = .ok (.ireturn, 1) := by decide +kernel
theorem dX11_give_58 : decode cX11_give 58 = .ok (.aload_n 0, 1) := by decide +kernel
theorem dX11_give_59 : decode cX11_give 59 = .ok (.getfield 215, 3) := by decide +kernel
theorem dX11_give_62 : decode cX11_give 62 = .ok (.bipush 60, 2) := by decide +kernel
theorem dX11_give_64 : decode cX11_give 64 = .ok (.if_icmp .ne 7, 3) := by decide +kernel
theorem dX11_give_67 : decode cX11_give 67 = .ok (.sipush (-1004), 3) := by decide +kernel
theorem dX11_give_70 : decode cX11_give 70 = .ok (.ireturn, 1) := by decide +kernel
theorem dX11_give_71 : decode cX11_give 71 = .ok (.aload_n 0, 1) := by decide +kernel
theorem dX11_give_72 : decode cX11_give 72 = .ok (.getfield 56, 3) := by decide +kernel
theorem dX11_give_75 : decode cX11_give 75 = .ok (.iload_n 2, 1) := by decide +kernel
theorem dX11_give_76 : decode cX11_give 76 = .ok (.iaload, 1) := by decide +kernel
theorem dX11_give_77 : decode cX11_give 77 = .ok (.istore 4, 2) := by decide +kernel
theorem dX11_give_79 : decode cX11_give 79 = .ok (.aload_n 0, 1) := by decide +kernel
theorem dX11_give_80 : decode cX11_give 80 = .ok (.getfield 41, 3) := by decide +kernel
theorem dX11_give_83 : decode cX11_give 83 = .ok (.iload_n 3, 1) := by decide +kernel
theorem dX11_give_84 : decode cX11_give 84 = .ok (.iaload, 1) := by decide +kernel
theorem dX11_give_85 : decode cX11_give 85 = .ok (.istore 5, 2) := by decide +kernel
theorem dX11_give_87 : decode cX11_give 87 = .ok (.aload_n 0, 1) := by decide +kernel
theorem dX11_give_88 : decode cX11_give 88 = .ok (.getfield 59, 3) := by decide +kernel
theorem dX11_give_91 : decode cX11_give 91 = .ok (.iload_n 2, 1) := by decide +kernel
theorem dX11_give_92 : decode cX11_give 92 = .ok (.iload 5, 2) := by decide +kernel
theorem dX11_give_94 : decode cX11_give 94 = .ok (.iastore, 1) := by decide +kernel
theorem dX11_give_95 : decode cX11_give 95 = .ok (.aload_n 0, 1) := by decide +kernel
theorem dX11_give_96 : decode cX11_give 96 = .ok (.getfield 41, 3) := by decide +kernel
theorem dX11_give_99 : decode cX11_give 99 = .ok (.iload_n 3, 1) := by decide +kernel
theorem dX11_give_100 : decode cX11_give 100 = .ok (.iconst (-1), 1) := by decide +kernel
theorem dX11_give_101 : decode cX11_give 101 = .ok (.iastore, 1) := by decide +kernel
theorem dX11_give_102 : decode cX11_give 102 = .ok (.aload_n 0, 1) := by decide +kernel
theorem dX11_give_103 : decode cX11_give 103 = .ok (.getfield 56, 3) := by decide +kernel
theorem dX11_give_106 : decode cX11_give 106 = .ok (.iload_n 2, 1) := by decide +kernel
theorem dX11_give_107 : decode cX11_give 107 = .ok (.iconst (-1), 1) := by decide +kernel
theorem dX11_give_108 : decode cX11_give 108 = .ok (.iastore, 1) := by decide +kernel
theorem dX11_give_109 : decode cX11_give 109 = .ok (.aload_n 0, 1) := by decide +kernel
theorem dX11_give_110 : decode cX11_give 110 = .ok (.iconst 1, 1) := by decide +kernel
theorem dX11_give_111 : decode cX11_give 111 = .ok (.iload_n 1, 1) := by decide +kernel
theorem dX11_give_112 : decode cX11_give 112 = .ok (.iload_n 2, 1) := by decide +kernel
theorem dX11_give_113 : decode cX11_give 113 = .ok (.iload_n 3, 1) := by decide +kernel
theorem dX11_give_114 : decode cX11_give 114 = .ok (.iload 4, 2) := by decide +kernel
theorem dX11_give_116 : decode cX11_give 116 = .ok (.iload 5, 2) := by decide +kernel
theorem dX11_give_118 : decode cX11_give 118 = .ok (.iload_n 3, 1) := by decide +kernel
theorem dX11_give_119 : decode cX11_give 119 = .ok (.iload 4, 2) := by decide +kernel
theorem dX11_give_121 : decode cX11_give 121 = .ok (.if_icmp .eq 7, 3) := by decide +kernel
theorem dX11_give_124 : decode cX11_give 124 = .ok (.iconst 1, 1) := by decide +kernel
theorem dX11_give_125 : decode cX11_give 125 = .ok (.goto 4, 3) := by decide +kernel
theorem dX11_give_128 : decode cX11_give 128 = .ok (.iconst 0, 1) := by decide +kernel
theorem dX11_give_129 : decode cX11_give 129 = .ok (.invokevirtual 295, 3) := by decide +kernel
theorem dX11_give_132 : decode cX11_give 132 = .ok (.ireturn, 1) := by decide +kernel
set_option maxRecDepth 20000 in
theorem ggX11_lose_X11_isGuest : GoodIn wsX11_lose wsX11_isGuest := goodIn_r _ [7, 8, 9, 10, 6, 11, 17, 18, 19, 20, 21, 22, 23, 24, 25, 26, 27, 28, 29, 30, 31, 32, 33, 34, 35, 36, 37, 38, 39, 40, 41, 42, 43, 44, 45, 46, 47, 48, 49, 50, 51, 52, 53, 54, 55, 56, 57, 58, 59, 60, 61, 62, 63, 64, 65, 66, 67, 68, 69, 70, 71, 72, 73, 74] (by decide +kernel) (by decide +kernel)
set_option maxRecDepth 20000 in
theorem gX11_lose_X11_isGuest : GoodIn wsX11_lose (wsV RX11 255 RX11 yX11_isGuest wsX11_isGuest) := goodIn_app (goodIn_of _ (by decide +kernel)) ggX11_lose_X11_isGuest
set_option maxRecDepth 20000 in
theorem ggX11_lose_X11_addEvent : GoodIn wsX11_lose wsX11_addEvent := goodIn_r _ [15, 2, 16, 17, 18, 19, 20, 21, 22, 23, 24, 25, 26, 27, 28, 29, 30, 31, 32, 33, 34, 35, 36, 37, 38, 39, 40, 41, 42, 43, 44, 45, 46, 47, 48, 49, 50, 51, 52, 53, 54, 55, 56, 57, 58, 59, 60, 61, 62, 63, 64, 65, 66, 67, 68, 69, 70, 71, 72, 73, 74] (by decide +kernel) (by decide +kernel)
set_option maxRecDepth 20000 in
theorem gX11_lose_X11_addEvent : GoodIn wsX11_lose (wsV RX11 295 RX11 yX11_addEvent wsX11_addEvent) := goodIn_app (goodIn_of _ (by decide +kernel)) ggX11_lose_X11_addEvent
theorem dX11_lose_0 : decode cX11_lose 0 = .ok (.aload_n 0, 1) := by decide +kernel
theorem dX11_lose_1 : decode cX11_lose 1 = .ok (.iload_n 1, 1) := by decide +kernel
theorem dX11_lose_2 : decode cX11_lose 2 = .ok (.invokevirtual 255, 3) := by decide +kernel
theorem dX11_lose_5 : decode cX11_lose 5 = .ok (.ifCond .ne 7, 3) := by decide +kernel
theorem dX11_lose_8 : decode cX11_lose 8 = .ok (.sipush (-1001), 3) := by decide +kernel
theorem dX11_lose_11 : decode cX11_lose 11 = .ok (.ireturn, 1) := by decide +kernel
theorem dX11_lose_12 : decode cX11_lose 12 = .ok (.aload_n 0, 1) := by decide +kernel
theorem dX11_lose_13 : decode cX11_lose 13 = .ok (.getfield 56, 3) := by decide +kernel
theorem dX11_lose_16 : decode cX11_lose 16 = .ok (.iload_n 1, 1) := by decide +kernel
theorem dX11_lose_17 : decode cX11_lose 17 = .ok (.iaload, 1) := by decide +kernel
theorem dX11_lose_18 : decode cX11_lose 18 = .ok (.ifCond .ge 7, 3) := by decide +kernel
theorem dX11_lose_21 : decode cX11_lose 21 = .ok (.sipush (-1003), 3) := by decide +kernel
theorem dX11_lose_24 : decode cX11_lose 24 = .ok (.ireturn, 1) := by decide +kernel
theorem dX11_lose_25 : decode cX11_lose 25 = .ok (.aload_n 0, 1) := by decide +kernel
theorem dX11_lose_26 : decode cX11_lose 26 = .ok (.getfield 215, 3) := by decide +kernel
theorem dX11_lose_29 : decode cX11_lose 29 = .ok (.bipush 60, 2) := by decide +kernel
theorem dX11_lose_31 : decode cX11_lose 31 = .ok (.if_icmp .ne 7, 3) := by decide +kernel
theorem dX11_lose_34 : decode cX11_lose 34 = .ok (.sipush (-1004), 3) := by decide +kernel
theorem dX11_lose_37 : decode cX11_lose 37 = .ok (.ireturn, 1) := by decide +kernel
theorem dX11_lose_38 : decode cX11_lose 38 = .ok (.aload_n 0, 1) := by decide +kernel
theorem dX11_lose_39 : decode cX11_lose 39 = .ok (.getfield 56, 3) := by decide +kernel
theorem dX11_lose_42 : decode cX11_lose 42 = .ok (.iload_n 1, 1) := by decide +kernel
theorem dX11_lose_43 : decode cX11_lose 43 = .ok (.iaload, 1) := by decide +kernel
theorem dX11_lose_44 : decode cX11_lose 44 = .ok (.istore_n 2, 1) := by decide +kernel
theorem dX11_lose_45 : decode cX11_lose 45 = .ok (.aload_n 0, 1) := by decide +kernel
theorem dX11_lose_46 : decode cX11_lose 46 = .ok (.getfield 56, 3) := by decide +kernel
theorem dX11_lose_49 : decode cX11_lose 49 = .ok (.iload_n 1, 1) := by decide +kernel
theorem dX11_lose_50 : decode cX11_lose 50 = .ok (.iconst (-1), 1) := by decide +kernel
theorem dX11_lose_51 : decode cX11_lose 51 = .ok (.iastore, 1) := by decide +kernel
theorem dX11_lose_52 : decode cX11_lose 52 = .ok (.aload_n 0, 1) := by decide +kernel
theorem dX11_lose_53 : decode cX11_lose 53 = .ok (.iconst 2, 1) := by decide +kernel
theorem dX11_lose_54 : decode cX11_lose 54 = .ok (.iconst (-1), 1) := by decide +kernel
theorem dX11_lose_55 : decode cX11_lose 55 = .ok (.iload_n 1, 1) := by decide +kernel
theorem dX11_lose_56 : decode cX11_lose 56 = .ok (.iconst (-1), 1) := by decide +kernel
theorem dX11_lose_57 : decode cX11_lose 57 = .ok (.iload_n 2, 1) := by decide +kernel
theorem dX11_lose_58 : decode cX11_lose 58 = .ok (.iconst (-1), 1) := by decide +kernel
theorem dX11_lose_59 : decode cX11_lose 59 = .ok (.iconst 0, 1) := by decide +kernel
theorem dX11_lose_60 : decode cX11_lose 60 = .ok (.invokevirtual 295, 3) := by decide +kernel
theorem dX11_lose_63 : decode cX11_lose 63 = .ok (.ireturn, 1) := by decide +kernel
set_option maxRecDepth 20000 in
theorem ggX11_event_X11_in : GoodIn wsX11_event wsX11_in := goodIn_r _ [7] (by decide +kernel) (by decide +kernel)
set_option maxRecDepth 20000 in
theorem gX11_event_X11_in : GoodIn wsX11_event (va_wsS RX11 126 yX11_in wsX11_in) := goodIn_app (goodIn_of _ (by decide +kernel)) ggX11_event_X11_in
theorem dX11_event_0 : decode cX11_event 0 = .ok (.iload_n 1, 1) := by decide +kernel
theorem dX11_event_1 : decode cX11_event 1 = .ok (.i2l, 1) := by decide +kernel
theorem dX11_event_2 : decode cX11_event 2 = .ok (.lconst 0, 1) := by decide +kernel
theorem dX11_event_3 : decode cX11_event 3 = .ok (.aload_n 0, 1) := by decide +kernel
theorem dX11_event_4 : decode cX11_event 4 = .ok (.getfield 215, 3) := by decide +kernel
theorem dX11_event_7 : decode cX11_event 7 = .ok (.iconst 1, 1) := by decide +kernel
theorem dX11_event_8 : decode cX11_event 8 = .ok (.isub, 1) := by decide +kernel
theorem dX11_event_9 : decode cX11_event 9 = .ok (.i2l, 1) := by decide +kernel
theorem dX11_event_10 : decode cX11_event 10 = .ok (.invokestatic 126, 3) := by decide +kernel
theorem dX11_event_13 : decode cX11_event 13 = .ok (.ifCond .ne 7, 3) := by decide +kernel
theorem dX11_event_16 : decode cX11_event 16 = .ok (.sipush (-1001), 3) := by decide +kernel
theorem dX11_event_19 : decode cX11_event 19 = .ok (.ireturn, 1) := by decide +kernel
theorem dX11_event_20 : decode cX11_event 20 = .ok (.iload_n 2, 1) := by decide +kernel
theorem dX11_event_21 : decode cX11_event 21 = .ok (.i2l, 1) := by decide +kernel
theorem dX11_event_22 : decode cX11_event 22 = .ok (.lconst 0, 1) := by decide +kernel
theorem dX11_event_23 : decode cX11_event 23 = .ok (.ldc2_w 299, 3) := by decide +kernel
theorem dX11_event_26 : decode cX11_event 26 = .ok (.invokestatic 126, 3) := by decide +kernel
theorem dX11_event_29 : decode cX11_event 29 = .ok (.ifCond .eq 17, 3) := by decide +kernel
theorem dX11_event_32 : decode cX11_event 32 = .ok (.aload_n 0, 1) := by decide +kernel
theorem dX11_event_33 : decode cX11_event 33 = .ok (.getfield 84, 3) := by decide +kernel
theorem dX11_event_36 : decode cX11_event 36 = .ok (.bipush 7, 2) := by decide +kernel
theorem dX11_event_38 : decode cX11_event 38 = .ok (.iload_n 1, 1) := by decide +kernel
theorem dX11_event_39 : decode cX11_event 39 = .ok (.imul, 1) := by decide +kernel
theorem dX11_event_40 : decode cX11_event 40 = .ok (.iload_n 2, 1) := by decide +kernel
theorem dX11_event_41 : decode cX11_event 41 = .ok (.iadd, 1) := by decide +kernel
theorem dX11_event_42 : decode cX11_event 42 = .ok (.iaload, 1) := by decide +kernel
theorem dX11_event_43 : decode cX11_event 43 = .ok (.goto 6, 3) := by decide +kernel
theorem dX11_event_46 : decode cX11_event 46 = .ok (.sipush (-1002), 3) := by decide +kernel
theorem dX11_event_49 : decode cX11_event 49 = .ok (.ireturn, 1) := by decide +kernel
theorem dX11_isAstray_0 : decode cX11_isAstray 0 = .ok (.aload_n 0, 1) := by decide +kernel
theorem dX11_isAstray_1 : decode cX11_isAstray 1 = .ok (.getfield 59, 3) := by decide +kernel
theorem dX11_isAstray_4 : decode cX11_isAstray 4 = .ok (.iload_n 1, 1) := by decide +kernel
theorem dX11_isAstray_5 : decode cX11_isAstray 5 = .ok (.iaload, 1) := by decide +kernel
theorem dX11_isAstray_6 : decode cX11_isAstray 6 = .ok (.ifCond .lt 17, 3) := by decide +kernel
theorem dX11_isAstray_9 : decode cX11_isAstray 9 = .ok (.aload_n 0, 1) := by decide +kernel
theorem dX11_isAstray_10 : decode cX11_isAstray 10 = .ok (.getfield 59, 3) := by decide +kernel
theorem dX11_isAstray_13 : decode cX11_isAstray 13 = .ok (.iload_n 1, 1) := by decide +kernel
theorem dX11_isAstray_14 : decode cX11_isAstray 14 = .ok (.iaload, 1) := by decide +kernel
theorem dX11_isAstray_15 : decode cX11_isAstray 15 = .ok (.iload_n 1, 1) := by decide +kernel
theorem dX11_isAstray_16 : decode cX11_isAstray 16 = .ok (.if_icmp .eq 7, 3) := by decide +kernel
theorem dX11_isAstray_19 : decode cX11_isAstray 19 = .ok (.iconst 1, 1) := by decide +kernel
theorem dX11_isAstray_20 : decode cX11_isAstray 20 = .ok (.goto 4, 3) := by decide +kernel
theorem dX11_isAstray_23 : decode cX11_isAstray 23 = .ok (.iconst 0, 1) := by decide +kernel
theorem dX11_isAstray_24 : decode cX11_isAstray 24 = .ok (.ireturn, 1) := by decide +kernel
set_option maxRecDepth 20000 in
theorem ggX11_astray_X11_isAstray : GoodIn wsX11_astray wsX11_isAstray := goodIn_r _ [6, 7, 8, 9, 10, 11, 12, 13, 14, 15, 16, 17, 18, 19, 20, 21, 22, 23, 24, 25, 26, 27, 28, 29, 30, 31, 32, 33, 34, 35, 36, 37, 38, 39, 40, 41, 42, 43, 44, 45, 46, 47, 48, 49, 50, 51, 52, 53, 54, 55, 56, 57, 58, 59, 60, 61, 62, 63, 64, 65] (by decide +kernel) (by decide +kernel)
set_option maxRecDepth 20000 in
theorem gX11_astray_X11_isAstray : GoodIn wsX11_astray (wsV RX11 301 RX11 yX11_isAstray wsX11_isAstray) := goodIn_app (goodIn_of _ (by decide +kernel)) ggX11_astray_X11_isAstray
theorem dX11_astray_0 : decode cX11_astray 0 = .ok (.iconst 0, 1) := by decide +kernel
theorem dX11_astray_1 : decode cX11_astray 1 = .ok (.istore_n 1, 1) := by decide +kernel
theorem dX11_astray_2 : decode cX11_astray 2 = .ok (.iconst 0, 1) := by decide +kernel
theorem dX11_astray_3 : decode cX11_astray 3 = .ok (.istore_n 2, 1) := by decide +kernel
theorem dX11_astray_4 : decode cX11_astray 4 = .ok (.iload_n 2, 1) := by decide +kernel
theorem dX11_astray_5 : decode cX11_astray 5 = .ok (.aload_n 0, 1) := by decide +kernel
theorem dX11_astray_6 : decode cX11_astray 6 = .ok (.getfield 227, 3) := by decide +kernel
theorem dX11_astray_9 : decode cX11_astray 9 = .ok (.if_icmp .ge 27, 3) := by decide +kernel
theorem dX11_astray_12 : decode cX11_astray 12 = .ok (.iload_n 1, 1) := by decide +kernel
theorem dX11_astray_13 : decode cX11_astray 13 = .ok (.aload_n 0, 1) := by decide +kernel
theorem dX11_astray_14 : decode cX11_astray 14 = .ok (.iload_n 2, 1) := by decide +kernel
theorem dX11_astray_15 : decode cX11_astray 15 = .ok (.invokevirtual 301, 3) := by decide +kernel
theorem dX11_astray_18 : decode cX11_astray 18 = .ok (.ifCond .eq 9, 3) := by decide +kernel
theorem dX11_astray_21 : decode cX11_astray 21 = .ok (.iconst 1, 1) := by decide +kernel
theorem dX11_astray_22 : decode cX11_astray 22 = .ok (.iload_n 2, 1) := by decide +kernel
theorem dX11_astray_23 : decode cX11_astray 23 = .ok (.ishl, 1) := by decide +kernel
theorem dX11_astray_24 : decode cX11_astray 24 = .ok (.goto 4, 3) := by decide +kernel
theorem dX11_astray_27 : decode cX11_astray 27 = .ok (.iconst 0, 1) := by decide +kernel
theorem dX11_astray_28 : decode cX11_astray 28 = .ok (.ior, 1) := by decide +kernel
theorem dX11_astray_29 : decode cX11_astray 29 = .ok (.istore_n 1, 1) := by decide +kernel
theorem dX11_astray_30 : decode cX11_astray 30 = .ok (.iinc 2 1, 3) := by decide +kernel
theorem dX11_astray_33 : decode cX11_astray 33 = .ok (.goto (-29), 3) := by decide +kernel
theorem dX11_astray_36 : decode cX11_astray 36 = .ok (.iload_n 1, 1) := by decide +kernel
theorem dX11_astray_37 : decode cX11_astray 37 = .ok (.ireturn, 1) := by decide +kernel
theorem dX11_findChain_0 : decode cX11_findChain 0 = .ok (.aload_n 0, 1) := by decide +kernel
theorem dX11_findChain_1 : decode cX11_findChain 1 = .ok (.getfield 87, 3) := by decide +kernel
theorem dX11_findChain_4 : decode cX11_findChain 4 = .ok (.iconst 0, 1) := by decide +kernel
theorem dX11_findChain_5 : decode cX11_findChain 5 = .ok (.iload_n 1, 1) := by decide +kernel
theorem dX11_findChain_6 : decode cX11_findChain 6 = .ok (.iastore, 1) := by decide +kernel
theorem dX11_findChain_7 : decode cX11_findChain 7 = .ok (.aload_n 0, 1) := by decide +kernel
theorem dX11_findChain_8 : decode cX11_findChain 8 = .ok (.iconst 1, 1) := by decide +kernel
theorem dX11_findChain_9 : decode cX11_findChain 9 = .ok (.putfield 304, 3) := by decide +kernel
theorem dX11_findChain_12 : decode cX11_findChain 12 = .ok (.aload_n 0, 1) := by decide +kernel
theorem dX11_findChain_13 : decode cX11_findChain 13 = .ok (.getfield 59, 3) := by decide +kernel
theorem dX11_findChain_16 : decode cX11_findChain 16 = .ok (.iload_n 1, 1) := by decide +kernel
theorem dX11_findChain_17 : decode cX11_findChain 17 = .ok (.iaload, 1) := by decide +kernel
theorem dX11_findChain_18 : decode cX11_findChain 18 = .ok (.istore_n 2, 1) := by decide +kernel
theorem dX11_findChain_19 : decode cX11_findChain 19 = .ok (.iload_n 2, 1) := by decide +kernel
theorem dX11_findChain_20 : decode cX11_findChain 20 = .ok (.ifCond .lt 38, 3) := by decide +kernel
theorem dX11_findChain_23 : decode cX11_findChain 23 = .ok (.iload_n 2, 1) := by decide +kernel
theorem dX11_findChain_24 : decode cX11_findChain 24 = .ok (.iload_n 1, 1) := by decide +kernel
theorem dX11_findChain_25 : decode cX11_findChain 25 = .ok (.if_icmp .eq 33, 3) := by decide +kernel
theorem dX11_findChain_28 : decode cX11_findChain 28 = .ok (.aload_n 0, 1) := by decide +kernel
theorem dX11_findChain_29 : decode cX11_findChain 29 = .ok (.getfield 87, 3) := by decide +kernel
theorem dX11_findChain_32 : decode cX11_findChain 32 = .ok (.aload_n 0, 1) := by decide +kernel
theorem dX11_findChain_33 : decode cX11_findChain 33 = .ok (.getfield 304, 3) := by decide +kernel
theorem dX11_findChain_36 : decode cX11_findChain 36 = .ok (.iload_n 2, 1) := by decide +kernel
theorem dX11_findChain_37 : decode cX11_findChain 37 = .ok (.iastore, 1) := by decide +kernel
theorem dX11_findChain_38 : decode cX11_findChain 38 = .ok (.aload_n 0, 1) := by decide +kernel
theorem dX11_findChain_39 : decode cX11_findChain 39 = .ok (.dup, 1) := by decide +kernel
theorem dX11_findChain_40 : decode cX11_findChain 40 = .ok (.getfield 304, 3) := by decide +kernel
theorem dX11_findChain_43 : decode cX11_findChain 43 = .ok (.iconst 1, 1) := by decide +kernel
theorem dX11_findChain_44 : decode cX11_findChain 44 = .ok (.iadd, 1) := by decide +kernel
theorem dX11_findChain_45 : decode cX11_findChain 45 = .ok (.putfield 304, 3) := by decide +kernel
theorem dX11_findChain_48 : decode cX11_findChain 48 = .ok (.aload_n 0, 1) := by decide +kernel
theorem dX11_findChain_49 : decode cX11_findChain 49 = .ok (.getfield 59, 3) := by decide +kernel
theorem dX11_findChain_52 : decode cX11_findChain 52 = .ok (.iload_n 2, 1) := by decide +kernel
theorem dX11_findChain_53 : decode cX11_findChain 53 = .ok (.iaload, 1) := by decide +kernel
theorem dX11_findChain_54 : decode cX11_findChain 54 = .ok (.istore_n 2, 1) := by decide +kernel
theorem dX11_findChain_55 : decode cX11_findChain 55 = .ok (.goto (-36), 3) := by decide +kernel
theorem dX11_findChain_58 : decode cX11_findChain 58 = .ok (.aload_n 0, 1) := by decide +kernel
theorem dX11_findChain_59 : decode cX11_findChain 59 = .ok (.iload_n 2, 1) := by decide +kernel
theorem dX11_findChain_60 : decode cX11_findChain 60 = .ok (.iload_n 1, 1) := by decide +kernel
theorem dX11_findChain_61 : decode cX11_findChain 61 = .ok (.if_icmp .ne 7, 3) := by decide +kernel
theorem dX11_findChain_64 : decode cX11_findChain 64 = .ok (.iconst 1, 1) := by decide +kernel
theorem dX11_findChain_65 : decode cX11_findChain 65 = .ok (.goto 4, 3) := by decide +kernel
theorem dX11_findChain_68 : decode cX11_findChain 68 = .ok (.iconst 0, 1) := by decide +kernel
theorem dX11_findChain_69 : decode cX11_findChain 69 = .ok (.putfield 307, 3) := by decide +kernel
theorem dX11_findChain_72 : decode cX11_findChain 72 = .ok (.return_, 1) := by decide +kernel
set_option maxRecDepth 20000 in
theorem ggX11_chain_X11_isGuest : GoodIn wsX11_chain wsX11_isGuest := goodIn_r _ [7, 8, 9, 10, 6, 11, 22, 23, 24, 25, 26, 27, 28, 29, 30, 31, 32, 33, 34, 35, 36, 37, 38, 39, 40, 41, 42, 43, 44, 45, 46, 47, 48, 49, 50, 51, 52, 53, 54, 55, 56, 57, 58, 59, 60, 61, 62, 63, 64, 65, 66, 67, 68, 69, 70, 71, 72, 73, 74, 75, 76, 77, 78, 79] (by decide +kernel) (by decide +kernel)
set_option maxRecDepth 20000 in
theorem gX11_chain_X11_isGuest : GoodIn wsX11_chain (wsV RX11 255 RX11 yX11_isGuest wsX11_isGuest) := goodIn_app (goodIn_of _ (by decide +kernel)) ggX11_chain_X11_isGuest
set_option maxRecDepth 20000 in
theorem ggX11_chain_X11_isAstray : GoodIn wsX11_chain wsX11_isAstray := goodIn_r _ [15, 16, 22, 23, 24, 25, 26, 27, 28, 29, 30, 31, 32, 33, 34, 35, 36, 37, 38, 39, 40, 41, 42, 43, 44, 45, 46, 47, 48, 49, 50, 51, 52, 53, 54, 55, 56, 57, 58, 59, 60, 61, 62, 63, 64, 65, 66, 67, 68, 69, 70, 71, 72, 73, 74, 75, 76, 77, 78, 79] (by decide +kernel) (by decide +kernel)
set_option maxRecDepth 20000 in
theorem gX11_chain_X11_isAstray : GoodIn wsX11_chain (wsV RX11 301 RX11 yX11_isAstray wsX11_isAstray) := goodIn_app (goodIn_of _ (by decide +kernel)) ggX11_chain_X11_isAstray
set_option maxRecDepth 20000 in
theorem ggX11_chain_X11_findChain : GoodIn wsX11_chain wsX11_findChain := goodIn_r _ [20, 2, 1, 16, 21, 22, 23, 24, 25, 26, 27, 28, 29, 30, 31, 32, 33, 34, 35, 36, 37, 38, 39, 40, 41, 42, 43, 44, 45, 46, 47, 48, 49, 50, 51, 52, 53, 54, 55, 56, 57, 58, 59, 60, 61, 62, 63, 64, 65, 66, 67, 68, 69, 70, 71, 72, 73, 74, 75, 76, 77, 78, 79] (by decide +kernel) (by decide +kernel)
set_option maxRecDepth 20000 in
theorem gX11_chain_X11_findChain : GoodIn wsX11_chain (wsV RX11 311 RX11 yX11_findChain wsX11_findChain) := goodIn_app (goodIn_of _ (by decide +kernel)) ggX11_chain_X11_findChain
set_option maxRecDepth 20000 in
theorem ggX11_chain_X11_in : GoodIn wsX11_chain wsX11_in := goodIn_r _ [11] (by decide +kernel) (by decide +kernel)
set_option maxRecDepth 20000 in
theorem gX11_chain_X11_in : GoodIn wsX11_chain (va_wsS RX11 126 yX11_in wsX11_in) := goodIn_app (goodIn_of _ (by decide +kernel)) ggX11_chain_X11_in
theorem dX11_chain_0 : decode cX11_chain 0 = .ok (.aload_n 0, 1) := by decide +kernel
theorem dX11_chain_1 : decode cX11_chain 1 = .ok (.iload_n 1, 1) := by decide +kernel
theorem dX11_chain_2 : decode cX11_chain 2 = .ok (.invokevirtual 255, 3) := by decide +kernel
theorem dX11_chain_5 : decode cX11_chain 5 = .ok (.ifCond .ne 7, 3) := by decide +kernel
theorem dX11_chain_8 : decode cX11_chain 8 = .ok (.sipush (-1001), 3) := by decide +kernel
theorem dX11_chain_11 : decode cX11_chain 11 = .ok (.ireturn, 1) := by decide +kernel
theorem dX11_chain_12 : decode cX11_chain 12 = .ok (.aload_n 0, 1) := by decide +kernel
theorem dX11_chain_13 : decode cX11_chain 13 = .ok (.iload_n 1, 1) := by decide +kernel
theorem dX11_chain_14 : decode cX11_chain 14 = .ok (.invokevirtual 301, 3) := by decide +kernel
theorem dX11_chain_17 : decode cX11_chain 17 = .ok (.ifCond .ne 7, 3) := by decide +kernel
theorem dX11_chain_20 : decode cX11_chain 20 = .ok (.sipush (-1003), 3) := by decide +kernel
theorem dX11_chain_23 : decode cX11_chain 23 = .ok (.ireturn, 1) := by decide +kernel
theorem dX11_chain_24 : decode cX11_chain 24 = .ok (.aload_n 0, 1) := by decide +kernel
theorem dX11_chain_25 : decode cX11_chain 25 = .ok (.iload_n 1, 1) := by decide +kernel
theorem dX11_chain_26 : decode cX11_chain 26 = .ok (.invokevirtual 311, 3) := by decide +kernel
theorem dX11_chain_29 : decode cX11_chain 29 = .ok (.iload_n 2, 1) := by decide +kernel
theorem dX11_chain_30 : decode cX11_chain 30 = .ok (.iconst (-1), 1) := by decide +kernel
theorem dX11_chain_31 : decode cX11_chain 31 = .ok (.if_icmp .ne 10, 3) := by decide +kernel
theorem dX11_chain_34 : decode cX11_chain 34 = .ok (.aload_n 0, 1) := by decide +kernel
theorem dX11_chain_35 : decode cX11_chain 35 = .ok (.getfield 304, 3) := by decide +kernel
theorem dX11_chain_38 : decode cX11_chain 38 = .ok (.goto 29, 3) := by decide +kernel
theorem dX11_chain_41 : decode cX11_chain 41 = .ok (.iload_n 2, 1) := by decide +kernel
theorem dX11_chain_42 : decode cX11_chain 42 = .ok (.i2l, 1) := by decide +kernel
theorem dX11_chain_43 : decode cX11_chain 43 = .ok (.lconst 0, 1) := by decide +kernel
theorem dX11_chain_44 : decode cX11_chain 44 = .ok (.aload_n 0, 1) := by decide +kernel
theorem dX11_chain_45 : decode cX11_chain 45 = .ok (.getfield 304, 3) := by decide +kernel
theorem dX11_chain_48 : decode cX11_chain 48 = .ok (.iconst 1, 1) := by decide +kernel
theorem dX11_chain_49 : decode cX11_chain 49 = .ok (.isub, 1) := by decide +kernel
theorem dX11_chain_50 : decode cX11_chain 50 = .ok (.i2l, 1) := by decide +kernel
theorem dX11_chain_51 : decode cX11_chain 51 = .ok (.invokestatic 126, 3) := by decide +kernel
theorem dX11_chain_54 : decode cX11_chain 54 = .ok (.ifCond .eq 12, 3) := by decide +kernel
theorem dX11_chain_57 : decode cX11_chain 57 = .ok (.aload_n 0, 1) := by decide +kernel
theorem dX11_chain_58 : decode cX11_chain 58 = .ok (.getfield 87, 3) := by decide +kernel
theorem dX11_chain_61 : decode cX11_chain 61 = .ok (.iload_n 2, 1) := by decide +kernel
theorem dX11_chain_62 : decode cX11_chain 62 = .ok (.iaload, 1) := by decide +kernel
theorem dX11_chain_63 : decode cX11_chain 63 = .ok (.goto 4, 3) := by decide +kernel
theorem dX11_chain_66 : decode cX11_chain 66 = .ok (.iconst (-1), 1) := by decide +kernel
theorem dX11_chain_67 : decode cX11_chain 67 = .ok (.ireturn, 1) := by decide +kernel
set_option maxRecDepth 20000 in
theorem ggX11_ring_X11_isGuest : GoodIn wsX11_ring wsX11_isGuest := goodIn_r _ [6, 7, 8, 9, 5, 10, 22, 23, 24, 25, 26, 27, 28, 29, 30, 31, 32, 33, 34, 35, 36, 37, 38, 39, 40, 41, 42, 43, 44, 45, 46, 47, 48, 49, 50, 51, 52, 53, 54, 55, 56, 57, 58, 59, 60, 61, 62, 63, 64, 65, 66, 67, 68, 69, 70, 71, 72, 73, 74, 75, 76, 77, 78, 79] (by decide +kernel) (by decide +kernel)
set_option maxRecDepth 20000 in
theorem gX11_ring_X11_isGuest : GoodIn wsX11_ring (wsV RX11 255 RX11 yX11_isGuest wsX11_isGuest) := goodIn_app (goodIn_of _ (by decide +kernel)) ggX11_ring_X11_isGuest
set_option maxRecDepth 20000 in
theorem ggX11_ring_X11_isAstray : GoodIn wsX11_ring wsX11_isAstray := goodIn_r _ [14, 15, 22, 23, 24, 25, 26, 27, 28, 29, 30, 31, 32, 33, 34, 35, 36, 37, 38, 39, 40, 41, 42, 43, 44, 45, 46, 47, 48, 49, 50, 51, 52, 53, 54, 55, 56, 57, 58, 59, 60, 61, 62, 63, 64, 65, 66, 67, 68, 69, 70, 71, 72, 73, 74, 75, 76, 77, 78, 79] (by decide +kernel) (by decide +kernel)
set_option maxRecDepth 20000 in
theorem gX11_ring_X11_isAstray : GoodIn wsX11_ring (wsV RX11 301 RX11 yX11_isAstray wsX11_isAstray) := goodIn_app (goodIn_of _ (by decide +kernel)) ggX11_ring_X11_isAstray
set_option maxRecDepth 20000 in
theorem ggX11_ring_X11_findChain : GoodIn wsX11_ring wsX11_findChain := goodIn_r _ [19, 20, 21, 15, 1, 22, 23, 24, 25, 26, 27, 28, 29, 30, 31, 32, 33, 34, 35, 36, 37, 38, 39, 40, 41, 42, 43, 44, 45, 46, 47, 48, 49, 50, 51, 52, 53, 54, 55, 56, 57, 58, 59, 60, 61, 62, 63, 64, 65, 66, 67, 68, 69, 70, 71, 72, 73, 74, 75, 76, 77, 78, 79] (by decide +kernel) (by decide +kernel)
set_option maxRecDepth 20000 in
theorem gX11_ring_X11_findChain : GoodIn wsX11_ring (wsV RX11 311 RX11 yX11_findChain wsX11_findChain) := goodIn_app (goodIn_of _ (by decide +kernel)) ggX11_ring_X11_findChain
theorem dX11_ring_0 : decode cX11_ring 0 = .ok (.aload_n 0, 1) := by decide +kernel
theorem dX11_ring_1 : decode cX11_ring 1 = .ok (.iload_n 1, 1) := by decide +kernel
theorem dX11_ring_2 : decode cX11_ring 2 = .ok (.invokevirtual 255, 3) := by decide +kernel
theorem dX11_ring_5 : decode cX11_ring 5 = .ok (.ifCond .ne 7, 3) := by decide +kernel
theorem dX11_ring_8 : decode cX11_ring 8 = .ok (.sipush (-1001), 3) := by decide +kernel
theorem dX11_ring_11 : decode cX11_ring 11 = .ok (.ireturn, 1) := by decide +kernel
theorem dX11_ring_12 : decode cX11_ring 12 = .ok (.aload_n 0, 1) := by decide +kernel
theorem dX11_ring_13 : decode cX11_ring 13 = .ok (.iload_n 1, 1) := by decide +kernel
theorem dX11_ring_14 : decode cX11_ring 14 = .ok (.invokevirtual 301, 3) := by decide +kernel
theorem dX11_ring_17 : decode cX11_ring 17 = .ok (.ifCond .ne 7, 3) := by decide +kernel
theorem dX11_ring_20 : decode cX11_ring 20 = .ok (.sipush (-1003), 3) := by decide +kernel
theorem dX11_ring_23 : decode cX11_ring 23 = .ok (.ireturn, 1) := by decide +kernel
theorem dX11_ring_24 : decode cX11_ring 24 = .ok (.aload_n 0, 1) := by decide +kernel
theorem dX11_ring_25 : decode cX11_ring 25 = .ok (.iload_n 1, 1) := by decide +kernel
theorem dX11_ring_26 : decode cX11_ring 26 = .ok (.invokevirtual 311, 3) := by decide +kernel
theorem dX11_ring_29 : decode cX11_ring 29 = .ok (.aload_n 0, 1) := by decide +kernel
theorem dX11_ring_30 : decode cX11_ring 30 = .ok (.getfield 307, 3) := by decide +kernel
theorem dX11_ring_33 : decode cX11_ring 33 = .ok (.ifCond .eq 7, 3) := by decide +kernel
theorem dX11_ring_36 : decode cX11_ring 36 = .ok (.iconst 1, 1) := by decide +kernel
theorem dX11_ring_37 : decode cX11_ring 37 = .ok (.goto 4, 3) := by decide +kernel
theorem dX11_ring_40 : decode cX11_ring 40 = .ok (.iconst 0, 1) := by decide +kernel
theorem dX11_ring_41 : decode cX11_ring 41 = .ok (.ireturn, 1) := by decide +kernel
set_option maxRecDepth 20000 in
theorem ggX11_exchanges_X11_isAstray : GoodIn wsX11_exchanges wsX11_isAstray := goodIn_r _ [9, 10, 15, 16, 17, 18, 19, 20, 21, 22, 23, 24, 25, 26, 27, 28, 29, 30, 31, 32, 33, 34, 35, 36, 37, 38, 39, 40, 41, 42, 43, 44, 45, 46, 47, 48, 49, 50, 51, 52, 53, 54, 55, 56, 57, 58, 59, 60, 61, 62, 63, 64, 65, 66, 67, 68, 69, 70, 71, 72] (by decide +kernel) (by decide +kernel)
set_option maxRecDepth 20000 in
theorem gX11_exchanges_X11_isAstray : GoodIn wsX11_exchanges (wsV RX11 301 RX11 yX11_isAstray wsX11_isAstray) := goodIn_app (goodIn_of _ (by decide +kernel)) ggX11_exchanges_X11_isAstray
set_option maxRecDepth 20000 in
theorem ggX11_exchanges_X11_findChain : GoodIn wsX11_exchanges wsX11_findChain := goodIn_r _ [14, 4, 3, 10, 2, 15, 16, 17, 18, 19, 20, 21, 22, 23, 24, 25, 26, 27, 28, 29, 30, 31, 32, 33, 34, 35, 36, 37, 38, 39, 40, 41, 42, 43, 44, 45, 46, 47, 48, 49, 50, 51, 52, 53, 54, 55, 56, 57, 58, 59, 60, 61, 62, 63, 64, 65, 66, 67, 68, 69, 70, 71, 72] (by decide +kernel) (by decide +kernel)
set_option maxRecDepth 20000 in
theorem gX11_exchanges_X11_findChain : GoodIn wsX11_exchanges (wsV RX11 311 RX11 yX11_findChain wsX11_findChain) := goodIn_app (goodIn_of _ (by decide +kernel)) ggX11_exchanges_X11_findChain
theorem dX11_exchanges_0 : decode cX11_exchanges 0 = .ok (.iconst 0, 1) := by decide +kernel
theorem dX11_exchanges_1 : decode cX11_exchanges 1 = .ok (.istore_n 1, 1) := by decide +kernel
theorem dX11_exchanges_2 : decode cX11_exchanges 2 = .ok (.iconst 0, 1) := by decide +kernel
theorem dX11_exchanges_3 : decode cX11_exchanges 3 = .ok (.istore_n 2, 1) := by decide +kernel
theorem dX11_exchanges_4 : decode cX11_exchanges 4 = .ok (.iload_n 2, 1) := by decide +kernel
theorem dX11_exchanges_5 : decode cX11_exchanges 5 = .ok (.aload_n 0, 1) := by decide +kernel
theorem dX11_exchanges_6 : decode cX11_exchanges 6 = .ok (.getfield 227, 3) := by decide +kernel
theorem dX11_exchanges_9 : decode cX11_exchanges 9 = .ok (.if_icmp .ge 78, 3) := by decide +kernel
theorem dX11_exchanges_12 : decode cX11_exchanges 12 = .ok (.aload_n 0, 1) := by decide +kernel
theorem dX11_exchanges_13 : decode cX11_exchanges 13 = .ok (.iload_n 2, 1) := by decide +kernel
theorem dX11_exchanges_14 : decode cX11_exchanges 14 = .ok (.invokevirtual 301, 3) := by decide +kernel
theorem dX11_exchanges_17 : decode cX11_exchanges 17 = .ok (.ifCond .eq 64, 3) := by decide +kernel
theorem dX11_exchanges_20 : decode cX11_exchanges 20 = .ok (.aload_n 0, 1) := by decide +kernel
theorem dX11_exchanges_21 : decode cX11_exchanges 21 = .ok (.iload_n 2, 1) := by decide +kernel
theorem dX11_exchanges_22 : decode cX11_exchanges 22 = .ok (.invokevirtual 311, 3) := by decide +kernel
theorem dX11_exchanges_25 : decode cX11_exchanges 25 = .ok (.aload_n 0, 1) := by decide +kernel
theorem dX11_exchanges_26 : decode cX11_exchanges 26 = .ok (.getfield 307, 3) := by decide +kernel
theorem dX11_exchanges_29 : decode cX11_exchanges 29 = .ok (.istore_n 3, 1) := by decide +kernel
theorem dX11_exchanges_30 : decode cX11_exchanges 30 = .ok (.iconst 1, 1) := by decide +kernel
theorem dX11_exchanges_31 : decode cX11_exchanges 31 = .ok (.istore 4, 2) := by decide +kernel
theorem dX11_exchanges_33 : decode cX11_exchanges 33 = .ok (.iload 4, 2) := by decide +kernel
theorem dX11_exchanges_35 : decode cX11_exchanges 35 = .ok (.aload_n 0, 1) := by decide +kernel
theorem dX11_exchanges_36 : decode cX11_exchanges 36 = .ok (.getfield 304, 3) := by decide +kernel
theorem dX11_exchanges_39 : decode cX11_exchanges 39 = .ok (.if_icmp .ge 30, 3) := by decide +kernel
theorem dX11_exchanges_42 : decode cX11_exchanges 42 = .ok (.iload_n 3, 1) := by decide +kernel
theorem dX11_exchanges_43 : decode cX11_exchanges 43 = .ok (.ifCond .eq 18, 3) := by decide +kernel
theorem dX11_exchanges_46 : decode cX11_exchanges 46 = .ok (.aload_n 0, 1) := by decide +kernel
theorem dX11_exchanges_47 : decode cX11_exchanges 47 = .ok (.getfield 87, 3) := by decide +kernel
theorem dX11_exchanges_50 : decode cX11_exchanges 50 = .ok (.iload 4, 2) := by decide +kernel
theorem dX11_exchanges_52 : decode cX11_exchanges 52 = .ok (.iaload, 1) := by decide +kernel
theorem dX11_exchanges_53 : decode cX11_exchanges 53 = .ok (.iload_n 2, 1) := by decide +kernel
theorem dX11_exchanges_54 : decode cX11_exchanges 54 = .ok (.if_icmp .le 7, 3) := by decide +kernel
theorem dX11_exchanges_57 : decode cX11_exchanges 57 = .ok (.iconst 1, 1) := by decide +kernel
theorem dX11_exchanges_58 : decode cX11_exchanges 58 = .ok (.goto 4, 3) := by decide +kernel
theorem dX11_exchanges_61 : decode cX11_exchanges 61 = .ok (.iconst 0, 1) := by decide +kernel
theorem dX11_exchanges_62 : decode cX11_exchanges 62 = .ok (.istore_n 3, 1) := by decide +kernel
theorem dX11_exchanges_63 : decode cX11_exchanges 63 = .ok (.iinc 4 1, 3) := by decide +kernel
theorem dX11_exchanges_66 : decode cX11_exchanges 66 = .ok (.goto (-33), 3) := by decide +kernel
theorem dX11_exchanges_69 : decode cX11_exchanges 69 = .ok (.iload_n 1, 1) := by decide +kernel
theorem dX11_exchanges_70 : decode cX11_exchanges 70 = .ok (.iload_n 3, 1) := by decide +kernel
theorem dX11_exchanges_71 : decode cX11_exchanges 71 = .ok (.ifCond .eq 7, 3) := by decide +kernel
theorem dX11_exchanges_74 : decode cX11_exchanges 74 = .ok (.iconst 0, 1) := by decide +kernel
theorem dX11_exchanges_75 : decode cX11_exchanges 75 = .ok (.goto 4, 3) := by decide +kernel
theorem dX11_exchanges_78 : decode cX11_exchanges 78 = .ok (.iconst 1, 1) := by decide +kernel
theorem dX11_exchanges_79 : decode cX11_exchanges 79 = .ok (.iadd, 1) := by decide +kernel
theorem dX11_exchanges_80 : decode cX11_exchanges 80 = .ok (.istore_n 1, 1) := by decide +kernel
theorem dX11_exchanges_81 : decode cX11_exchanges 81 = .ok (.iinc 2 1, 3) := by decide +kernel
theorem dX11_exchanges_84 : decode cX11_exchanges 84 = .ok (.goto (-80), 3) := by decide +kernel
theorem dX11_exchanges_87 : decode cX11_exchanges 87 = .ok (.iload_n 1, 1) := by decide +kernel
theorem dX11_exchanges_88 : decode cX11_exchanges 88 = .ok (.ireturn, 1) := by decide +kernel
set_option maxRecDepth 20000 in
theorem ggX11_wrong_X11_isGuest : GoodIn wsX11_wrong wsX11_isGuest := goodIn_r _ [8, 9, 10, 11, 7, 12, 13, 14, 15, 16, 17, 18, 19, 20, 21, 22, 23, 24, 25, 26, 27, 28, 29, 30, 31, 32, 33, 34, 35, 36, 37, 38, 39, 40, 41, 42, 43, 44, 45, 46, 47, 48, 49, 50, 51, 52, 53, 54, 55, 56, 57, 58, 59, 60, 61, 62, 63, 64, 65, 66, 67, 68, 69, 70] (by decide +kernel) (by decide +kernel)
set_option maxRecDepth 20000 in
theorem gX11_wrong_X11_isGuest : GoodIn wsX11_wrong (wsV RX11 255 RX11 yX11_isGuest wsX11_isGuest) := goodIn_app (goodIn_of _ (by decide +kernel)) ggX11_wrong_X11_isGuest
set_option maxRecDepth 20000 in
theorem ggX11_wrong_X11_in : GoodIn wsX11_wrong wsX11_in := goodIn_r _ [12] (by decide +kernel) (by decide +kernel)
set_option maxRecDepth 20000 in
theorem gX11_wrong_X11_in : GoodIn wsX11_wrong (va_wsS RX11 126 yX11_in wsX11_in) := goodIn_app (goodIn_of _ (by decide +kernel)) ggX11_wrong_X11_in
theorem dX11_wrong_0 : decode cX11_wrong 0 = .ok (.aload_n 0, 1) := by decide +kernel
theorem dX11_wrong_1 : decode cX11_wrong 1 = .ok (.iload_n 1, 1) := by decide +kernel
theorem dX11_wrong_2 : decode cX11_wrong 2 = .ok (.invokevirtual 255, 3) := by decide +kernel
theorem dX11_wrong_5 : decode cX11_wrong 5 = .ok (.ifCond .ne 7, 3) := by decide +kernel
theorem dX11_wrong_8 : decode cX11_wrong 8 = .ok (.sipush (-1001), 3) := by decide +kernel
theorem dX11_wrong_11 : decode cX11_wrong 11 = .ok (.ireturn, 1) := by decide +kernel
theorem dX11_wrong_12 : decode cX11_wrong 12 = .ok (.iload_n 2, 1) := by decide +kernel
theorem dX11_wrong_13 : decode cX11_wrong 13 = .ok (.i2l, 1) := by decide +kernel
theorem dX11_wrong_14 : decode cX11_wrong 14 = .ok (.lconst 0, 1) := by decide +kernel
theorem dX11_wrong_15 : decode cX11_wrong 15 = .ok (.lconst 1, 1) := by decide +kernel
theorem dX11_wrong_16 : decode cX11_wrong 16 = .ok (.invokestatic 126, 3) := by decide +kernel
theorem dX11_wrong_19 : decode cX11_wrong 19 = .ok (.ifCond .ne 7, 3) := by decide +kernel
theorem dX11_wrong_22 : decode cX11_wrong 22 = .ok (.sipush (-1002), 3) := by decide +kernel
theorem dX11_wrong_25 : decode cX11_wrong 25 = .ok (.ireturn, 1) := by decide +kernel
theorem dX11_wrong_26 : decode cX11_wrong 26 = .ok (.iconst (-1), 1) := by decide +kernel
theorem dX11_wrong_27 : decode cX11_wrong 27 = .ok (.istore_n 3, 1) := by decide +kernel
theorem dX11_wrong_28 : decode cX11_wrong 28 = .ok (.iconst 0, 1) := by decide +kernel
theorem dX11_wrong_29 : decode cX11_wrong 29 = .ok (.istore 4, 2) := by decide +kernel
theorem dX11_wrong_31 : decode cX11_wrong 31 = .ok (.iload 4, 2) := by decide +kernel
theorem dX11_wrong_33 : decode cX11_wrong 33 = .ok (.aload_n 0, 1) := by decide +kernel
theorem dX11_wrong_34 : decode cX11_wrong 34 = .ok (.getfield 215, 3) := by decide +kernel
theorem dX11_wrong_37 : decode cX11_wrong 37 = .ok (.if_icmp .ge 46, 3) := by decide +kernel
theorem dX11_wrong_40 : decode cX11_wrong 40 = .ok (.aload_n 0, 1) := by decide +kernel
theorem dX11_wrong_41 : decode cX11_wrong 41 = .ok (.getfield 84, 3) := by decide +kernel
theorem dX11_wrong_44 : decode cX11_wrong 44 = .ok (.bipush 7, 2) := by decide +kernel
theorem dX11_wrong_46 : decode cX11_wrong 46 = .ok (.iload 4, 2) := by decide +kernel
theorem dX11_wrong_48 : decode cX11_wrong 48 = .ok (.imul, 1) := by decide +kernel
theorem dX11_wrong_49 : decode cX11_wrong 49 = .ok (.iaload, 1) := by decide +kernel
theorem dX11_wrong_50 : decode cX11_wrong 50 = .ok (.iconst 1, 1) := by decide +kernel
theorem dX11_wrong_51 : decode cX11_wrong 51 = .ok (.if_icmp .ne 24, 3) := by decide +kernel
theorem dX11_wrong_54 : decode cX11_wrong 54 = .ok (.aload_n 0, 1) := by decide +kernel
theorem dX11_wrong_55 : decode cX11_wrong 55 = .ok (.getfield 84, 3) := by decide +kernel
theorem dX11_wrong_58 : decode cX11_wrong 58 = .ok (.bipush 7, 2) := by decide +kernel
theorem dX11_wrong_60 : decode cX11_wrong 60 = .ok (.iload 4, 2) := by decide +kernel
theorem dX11_wrong_62 : decode cX11_wrong 62 = .ok (.imul, 1) := by decide +kernel
theorem dX11_wrong_63 : decode cX11_wrong 63 = .ok (.iconst 5, 1) := by decide +kernel
theorem dX11_wrong_64 : decode cX11_wrong 64 = .ok (.iadd, 1) := by decide +kernel
theorem dX11_wrong_65 : decode cX11_wrong 65 = .ok (.iaload, 1) := by decide +kernel
theorem dX11_wrong_66 : decode cX11_wrong 66 = .ok (.iload_n 1, 1) := by decide +kernel
theorem dX11_wrong_67 : decode cX11_wrong 67 = .ok (.if_icmp .ne 8, 3) := by decide +kernel
theorem dX11_wrong_70 : decode cX11_wrong 70 = .ok (.iload 4, 2) := by decide +kernel
theorem dX11_wrong_72 : decode cX11_wrong 72 = .ok (.goto 4, 3) := by decide +kernel
theorem dX11_wrong_75 : decode cX11_wrong 75 = .ok (.iload_n 3, 1) := by decide +kernel
theorem dX11_wrong_76 : decode cX11_wrong 76 = .ok (.istore_n 3, 1) := by decide +kernel
theorem dX11_wrong_77 : decode cX11_wrong 77 = .ok (.iinc 4 1, 3) := by decide +kernel
theorem dX11_wrong_80 : decode cX11_wrong 80 = .ok (.goto (-49), 3) := by decide +kernel
theorem dX11_wrong_83 : decode cX11_wrong 83 = .ok (.iconst (-1), 1) := by decide +kernel
theorem dX11_wrong_84 : decode cX11_wrong 84 = .ok (.istore 4, 2) := by decide +kernel
theorem dX11_wrong_86 : decode cX11_wrong 86 = .ok (.aload_n 0, 1) := by decide +kernel
theorem dX11_wrong_87 : decode cX11_wrong 87 = .ok (.getfield 62, 3) := by decide +kernel
theorem dX11_wrong_90 : decode cX11_wrong 90 = .ok (.iload_n 1, 1) := by decide +kernel
theorem dX11_wrong_91 : decode cX11_wrong 91 = .ok (.iaload, 1) := by decide +kernel
theorem dX11_wrong_92 : decode cX11_wrong 92 = .ok (.ifCond .lt 35, 3) := by decide +kernel
theorem dX11_wrong_95 : decode cX11_wrong 95 = .ok (.aload_n 0, 1) := by decide +kernel
theorem dX11_wrong_96 : decode cX11_wrong 96 = .ok (.getfield 84, 3) := by decide +kernel
theorem dX11_wrong_99 : decode cX11_wrong 99 = .ok (.bipush 7, 2) := by decide +kernel
theorem dX11_wrong_101 : decode cX11_wrong 101 = .ok (.aload_n 0, 1) := by decide +kernel
theorem dX11_wrong_102 : decode cX11_wrong 102 = .ok (.getfield 62, 3) := by decide +kernel
theorem dX11_wrong_105 : decode cX11_wrong 105 = .ok (.iload_n 1, 1) := by decide +kernel
theorem dX11_wrong_106 : decode cX11_wrong 106 = .ok (.iaload, 1) := by decide +kernel
theorem dX11_wrong_107 : decode cX11_wrong 107 = .ok (.imul, 1) := by decide +kernel
theorem dX11_wrong_108 : decode cX11_wrong 108 = .ok (.bipush 6, 2) := by decide +kernel
theorem dX11_wrong_110 : decode cX11_wrong 110 = .ok (.iadd, 1) := by decide +kernel
theorem dX11_wrong_111 : decode cX11_wrong 111 = .ok (.iaload, 1) := by decide +kernel
theorem dX11_wrong_112 : decode cX11_wrong 112 = .ok (.iconst 1, 1) := by decide +kernel
theorem dX11_wrong_113 : decode cX11_wrong 113 = .ok (.if_icmp .ne 14, 3) := by decide +kernel
theorem dX11_wrong_116 : decode cX11_wrong 116 = .ok (.aload_n 0, 1) := by decide +kernel
theorem dX11_wrong_117 : decode cX11_wrong 117 = .ok (.getfield 62, 3) := by decide +kernel
theorem dX11_wrong_120 : decode cX11_wrong 120 = .ok (.iload_n 1, 1) := by decide +kernel
theorem dX11_wrong_121 : decode cX11_wrong 121 = .ok (.iaload, 1) := by decide +kernel
theorem dX11_wrong_122 : decode cX11_wrong 122 = .ok (.istore 4, 2) := by decide +kernel
theorem dX11_wrong_124 : decode cX11_wrong 124 = .ok (.goto 75, 3) := by decide +kernel
theorem dX11_wrong_127 : decode cX11_wrong 127 = .ok (.iload_n 3, 1) := by decide +kernel
theorem dX11_wrong_128 : decode cX11_wrong 128 = .ok (.ifCond .lt 71, 3) := by decide +kernel
theorem dX11_wrong_131 : decode cX11_wrong 131 = .ok (.aload_n 0, 1) := by decide +kernel
theorem dX11_wrong_132 : decode cX11_wrong 132 = .ok (.getfield 62, 3) := by decide +kernel
theorem dX11_wrong_135 : decode cX11_wrong 135 = .ok (.aload_n 0, 1) := by decide +kernel
theorem dX11_wrong_136 : decode cX11_wrong 136 = .ok (.getfield 84, 3) := by decide +kernel
theorem dX11_wrong_139 : decode cX11_wrong 139 = .ok (.bipush 7, 2) := by decide +kernel
theorem dX11_wrong_141 : decode cX11_wrong 141 = .ok (.iload_n 3, 1) := by decide +kernel
