set_option maxRecDepth 20000 in
theorem ggX8_needWord_X8_fail : GoodIn wsX8_needWord wsX8_fail := goodIn_r _ [69, 70, 71, 72, 73, 74, 75, 76, 77, 78, 79] (by decide +kernel) (by decide +kernel)
set_option maxRecDepth 20000 in
theorem gX8_needWord_X8_fail : GoodIn wsX8_needWord (wsV RX8 94 RX8 yX8_fail wsX8_fail) := goodIn_app (goodIn_of _ (by decide +kernel)) ggX8_needWord_X8_fail
theorem dX8_needWord_0 : decode cX8_needWord 0 = .ok (.aload_n 0, 1) := by decide +kernel
theorem dX8_needWord_1 : decode cX8_needWord 1 = .ok (.invokevirtual 44, 3) := by decide +kernel
theorem dX8_needWord_4 : decode cX8_needWord 4 = .ok (.aload_n 0, 1) := by decide +kernel
theorem dX8_needWord_5 : decode cX8_needWord 5 = .ok (.aload_n 1, 1) := by decide +kernel
theorem dX8_needWord_6 : decode cX8_needWord 6 = .ok (.invokevirtual 52, 3) := by decide +kernel
theorem dX8_needWord_9 : decode cX8_needWord 9 = .ok (.ifCond .eq 19, 3) := by decide +kernel
theorem dX8_needWord_12 : decode cX8_needWord 12 = .ok (.aload_n 0, 1) := by decide +kernel
theorem dX8_needWord_13 : decode cX8_needWord 13 = .ok (.dup, 1) := by decide +kernel
theorem dX8_needWord_14 : decode cX8_needWord 14 = .ok (.getfield 25, 3) := by decide +kernel
theorem dX8_needWord_17 : decode cX8_needWord 17 = .ok (.aload_n 1, 1) := by decide +kernel
theorem dX8_needWord_18 : decode cX8_needWord 18 = .ok (.invokevirtual 123, 3) := by decide +kernel
theorem dX8_needWord_21 : decode cX8_needWord 21 = .ok (.iadd, 1) := by decide +kernel
theorem dX8_needWord_22 : decode cX8_needWord 22 = .ok (.putfield 25, 3) := by decide +kernel
theorem dX8_needWord_25 : decode cX8_needWord 25 = .ok (.goto 12, 3) := by decide +kernel
theorem dX8_needWord_28 : decode cX8_needWord 28 = .ok (.aload_n 0, 1) := by decide +kernel
theorem dX8_needWord_29 : decode cX8_needWord 29 = .ok (.iconst 1, 1) := by decide +kernel
theorem dX8_needWord_30 : decode cX8_needWord 30 = .ok (.aload_n 0, 1) := by decide +kernel
theorem dX8_needWord_31 : decode cX8_needWord 31 = .ok (.getfield 25, 3) := by decide +kernel
theorem dX8_needWord_34 : decode cX8_needWord 34 = .ok (.invokevirtual 94, 3) := by decide +kernel
theorem dX8_needWord_37 : decode cX8_needWord 37 = .ok (.return_, 1) := by decide +kernel
set_option maxRecDepth 20000 in
theorem ggX8_needEnd_X8_skipBlanks : GoodIn wsX8_needEnd wsX8_skipBlanks := goodIn_r _ [6, 1, 7, 8, 9, 10, 5, 11, 12, 19, 20, 21, 22, 23, 24, 25, 26] (by decide +kernel) (by decide +kernel)
set_option maxRecDepth 20000 in
theorem gX8_needEnd_X8_skipBlanks : GoodIn wsX8_needEnd (wsV RX8 44 RX8 yX8_skipBlanks wsX8_skipBlanks) := goodIn_app (goodIn_of _ (by decide +kernel)) ggX8_needEnd_X8_skipBlanks
set_option maxRecDepth 20000 in
theorem ggX8_needEnd_X8_byteAt : GoodIn wsX8_needEnd wsX8_byteAt := goodIn_r _ [11, 7, 12, 19, 20, 21, 22, 23, 24, 25, 26] (by decide +kernel) (by decide +kernel)
set_option maxRecDepth 20000 in
theorem gX8_needEnd_X8_byteAt : GoodIn wsX8_needEnd (wsV RX8 115 RX8 yX8_byteAt wsX8_byteAt) := goodIn_app (goodIn_of _ (by decide +kernel)) ggX8_needEnd_X8_byteAt
set_option maxRecDepth 20000 in
theorem ggX8_needEnd_X8_fail : GoodIn wsX8_needEnd wsX8_fail := goodIn_r _ [16, 17, 18, 19, 20, 21, 22, 23, 24, 25, 26] (by decide +kernel) (by decide +kernel)
set_option maxRecDepth 20000 in
theorem gX8_needEnd_X8_fail : GoodIn wsX8_needEnd (wsV RX8 94 RX8 yX8_fail wsX8_fail) := goodIn_app (goodIn_of _ (by decide +kernel)) ggX8_needEnd_X8_fail
theorem dX8_needEnd_0 : decode cX8_needEnd 0 = .ok (.aload_n 0, 1) := by decide +kernel
theorem dX8_needEnd_1 : decode cX8_needEnd 1 = .ok (.invokevirtual 44, 3) := by decide +kernel
theorem dX8_needEnd_4 : decode cX8_needEnd 4 = .ok (.aload_n 0, 1) := by decide +kernel
theorem dX8_needEnd_5 : decode cX8_needEnd 5 = .ok (.aload_n 0, 1) := by decide +kernel
theorem dX8_needEnd_6 : decode cX8_needEnd 6 = .ok (.getfield 25, 3) := by decide +kernel
theorem dX8_needEnd_9 : decode cX8_needEnd 9 = .ok (.invokevirtual 115, 3) := by decide +kernel
theorem dX8_needEnd_12 : decode cX8_needEnd 12 = .ok (.bipush 59, 2) := by decide +kernel
theorem dX8_needEnd_14 : decode cX8_needEnd 14 = .ok (.if_icmp .ne 16, 3) := by decide +kernel
theorem dX8_needEnd_17 : decode cX8_needEnd 17 = .ok (.aload_n 0, 1) := by decide +kernel
theorem dX8_needEnd_18 : decode cX8_needEnd 18 = .ok (.dup, 1) := by decide +kernel
theorem dX8_needEnd_19 : decode cX8_needEnd 19 = .ok (.getfield 25, 3) := by decide +kernel
theorem dX8_needEnd_22 : decode cX8_needEnd 22 = .ok (.iconst 1, 1) := by decide +kernel
theorem dX8_needEnd_23 : decode cX8_needEnd 23 = .ok (.iadd, 1) := by decide +kernel
theorem dX8_needEnd_24 : decode cX8_needEnd 24 = .ok (.putfield 25, 3) := by decide +kernel
theorem dX8_needEnd_27 : decode cX8_needEnd 27 = .ok (.goto 12, 3) := by decide +kernel
theorem dX8_needEnd_30 : decode cX8_needEnd 30 = .ok (.aload_n 0, 1) := by decide +kernel
theorem dX8_needEnd_31 : decode cX8_needEnd 31 = .ok (.iconst 1, 1) := by decide +kernel
theorem dX8_needEnd_32 : decode cX8_needEnd 32 = .ok (.aload_n 0, 1) := by decide +kernel
theorem dX8_needEnd_33 : decode cX8_needEnd 33 = .ok (.getfield 25, 3) := by decide +kernel
theorem dX8_needEnd_36 : decode cX8_needEnd 36 = .ok (.invokevirtual 94, 3) := by decide +kernel
theorem dX8_needEnd_39 : decode cX8_needEnd 39 = .ok (.return_, 1) := by decide +kernel
set_option maxRecDepth 20000 in
theorem ggX8_needNumber_X8_skipBlanks : GoodIn wsX8_needNumber wsX8_skipBlanks := goodIn_r _ [8, 1, 3, 9, 10, 11, 7, 12, 13, 27, 28, 29, 30, 31, 32, 33, 34] (by decide +kernel) (by decide +kernel)
set_option maxRecDepth 20000 in
theorem gX8_needNumber_X8_skipBlanks : GoodIn wsX8_needNumber (wsV RX8 44 RX8 yX8_skipBlanks wsX8_skipBlanks) := goodIn_app (goodIn_of _ (by decide +kernel)) ggX8_needNumber_X8_skipBlanks
set_option maxRecDepth 20000 in
theorem ggX8_needNumber_X8_isFigure : GoodIn wsX8_needNumber wsX8_isFigure := goodIn_r _ [17, 9, 10, 11, 7, 12, 3, 13, 18, 19, 20, 27, 28, 29, 30, 31, 32, 33, 34] (by decide +kernel) (by decide +kernel)
set_option maxRecDepth 20000 in
theorem gX8_needNumber_X8_isFigure : GoodIn wsX8_needNumber (wsV RX8 132 RX8 yX8_isFigure wsX8_isFigure) := goodIn_app (goodIn_of _ (by decide +kernel)) ggX8_needNumber_X8_isFigure
set_option maxRecDepth 20000 in
theorem ggX8_needNumber_X8_byteAt : GoodIn wsX8_needNumber wsX8_byteAt := goodIn_r _ [12, 3, 13, 27, 28, 29, 30, 31, 32, 33, 34] (by decide +kernel) (by decide +kernel)
set_option maxRecDepth 20000 in
theorem gX8_needNumber_X8_byteAt : GoodIn wsX8_needNumber (wsV RX8 115 RX8 yX8_byteAt wsX8_byteAt) := goodIn_app (goodIn_of _ (by decide +kernel)) ggX8_needNumber_X8_byteAt
set_option maxRecDepth 20000 in
theorem ggX8_needNumber_X8_fail : GoodIn wsX8_needNumber wsX8_fail := goodIn_r _ [24, 25, 26, 27, 28, 29, 30, 31, 32, 33, 34] (by decide +kernel) (by decide +kernel)
set_option maxRecDepth 20000 in
theorem gX8_needNumber_X8_fail : GoodIn wsX8_needNumber (wsV RX8 94 RX8 yX8_fail wsX8_fail) := goodIn_app (goodIn_of _ (by decide +kernel)) ggX8_needNumber_X8_fail
set_option maxRecDepth 20000 in
theorem ggX8_needNumber_X10_within : GoodIn wsX8_needNumber wsX10_within := goodIn_r _ [20] (by decide +kernel) (by decide +kernel)
set_option maxRecDepth 20000 in
theorem gX8_needNumber_X10_within_n119 : GoodIn wsX8_needNumber (wsX10_within) := ggX8_needNumber_X10_within
theorem dX8_needNumber_0 : decode cX8_needNumber 0 = .ok (.aload_n 0, 1) := by decide +kernel
theorem dX8_needNumber_1 : decode cX8_needNumber 1 = .ok (.invokevirtual 44, 3) := by decide +kernel
theorem dX8_needNumber_4 : decode cX8_needNumber 4 = .ok (.aload_n 0, 1) := by decide +kernel
theorem dX8_needNumber_5 : decode cX8_needNumber 5 = .ok (.aload_n 0, 1) := by decide +kernel
theorem dX8_needNumber_6 : decode cX8_needNumber 6 = .ok (.getfield 25, 3) := by decide +kernel
theorem dX8_needNumber_9 : decode cX8_needNumber 9 = .ok (.putfield 28, 3) := by decide +kernel
theorem dX8_needNumber_12 : decode cX8_needNumber 12 = .ok (.iconst 0, 1) := by decide +kernel
theorem dX8_needNumber_13 : decode cX8_needNumber 13 = .ok (.istore_n 3, 1) := by decide +kernel
theorem dX8_needNumber_14 : decode cX8_needNumber 14 = .ok (.aload_n 0, 1) := by decide +kernel
theorem dX8_needNumber_15 : decode cX8_needNumber 15 = .ok (.getfield 25, 3) := by decide +kernel
theorem dX8_needNumber_18 : decode cX8_needNumber 18 = .ok (.aload_n 0, 1) := by decide +kernel
theorem dX8_needNumber_19 : decode cX8_needNumber 19 = .ok (.getfield 15, 3) := by decide +kernel
theorem dX8_needNumber_22 : decode cX8_needNumber 22 = .ok (.if_icmp .ge 57, 3) := by decide +kernel
theorem dX8_needNumber_25 : decode cX8_needNumber 25 = .ok (.aload_n 0, 1) := by decide +kernel
theorem dX8_needNumber_26 : decode cX8_needNumber 26 = .ok (.aload_n 0, 1) := by decide +kernel
theorem dX8_needNumber_27 : decode cX8_needNumber 27 = .ok (.getfield 25, 3) := by decide +kernel
theorem dX8_needNumber_30 : decode cX8_needNumber 30 = .ok (.invokevirtual 132, 3) := by decide +kernel
theorem dX8_needNumber_33 : decode cX8_needNumber 33 = .ok (.ifCond .eq 46, 3) := by decide +kernel
theorem dX8_needNumber_36 : decode cX8_needNumber 36 = .ok (.aload_n 0, 1) := by decide +kernel
theorem dX8_needNumber_37 : decode cX8_needNumber 37 = .ok (.getfield 25, 3) := by decide +kernel
theorem dX8_needNumber_40 : decode cX8_needNumber 40 = .ok (.aload_n 0, 1) := by decide +kernel
theorem dX8_needNumber_41 : decode cX8_needNumber 41 = .ok (.getfield 28, 3) := by decide +kernel
theorem dX8_needNumber_44 : decode cX8_needNumber 44 = .ok (.isub, 1) := by decide +kernel
theorem dX8_needNumber_45 : decode cX8_needNumber 45 = .ok (.iconst 3, 1) := by decide +kernel
theorem dX8_needNumber_46 : decode cX8_needNumber 46 = .ok (.if_icmp .ge 20, 3) := by decide +kernel
theorem dX8_needNumber_49 : decode cX8_needNumber 49 = .ok (.iload_n 3, 1) := by decide +kernel
theorem dX8_needNumber_50 : decode cX8_needNumber 50 = .ok (.bipush 10, 2) := by decide +kernel
theorem dX8_needNumber_52 : decode cX8_needNumber 52 = .ok (.imul, 1) := by decide +kernel
theorem dX8_needNumber_53 : decode cX8_needNumber 53 = .ok (.aload_n 0, 1) := by decide +kernel
theorem dX8_needNumber_54 : decode cX8_needNumber 54 = .ok (.aload_n 0, 1) := by decide +kernel
theorem dX8_needNumber_55 : decode cX8_needNumber 55 = .ok (.getfield 25, 3) := by decide +kernel
theorem dX8_needNumber_58 : decode cX8_needNumber 58 = .ok (.invokevirtual 115, 3) := by decide +kernel
theorem dX8_needNumber_61 : decode cX8_needNumber 61 = .ok (.iadd, 1) := by decide +kernel
theorem dX8_needNumber_62 : decode cX8_needNumber 62 = .ok (.bipush 48, 2) := by decide +kernel
theorem dX8_needNumber_64 : decode cX8_needNumber 64 = .ok (.isub, 1) := by decide +kernel
theorem dX8_needNumber_65 : decode cX8_needNumber 65 = .ok (.istore_n 3, 1) := by decide +kernel
theorem dX8_needNumber_66 : decode cX8_needNumber 66 = .ok (.aload_n 0, 1) := by decide +kernel
theorem dX8_needNumber_67 : decode cX8_needNumber 67 = .ok (.dup, 1) := by decide +kernel
theorem dX8_needNumber_68 : decode cX8_needNumber 68 = .ok (.getfield 25, 3) := by decide +kernel
theorem dX8_needNumber_71 : decode cX8_needNumber 71 = .ok (.iconst 1, 1) := by decide +kernel
theorem dX8_needNumber_72 : decode cX8_needNumber 72 = .ok (.iadd, 1) := by decide +kernel
theorem dX8_needNumber_73 : decode cX8_needNumber 73 = .ok (.putfield 25, 3) := by decide +kernel
theorem dX8_needNumber_76 : decode cX8_needNumber 76 = .ok (.goto (-62), 3) := by decide +kernel
theorem dX8_needNumber_79 : decode cX8_needNumber 79 = .ok (.aload_n 0, 1) := by decide +kernel
theorem dX8_needNumber_80 : decode cX8_needNumber 80 = .ok (.getfield 25, 3) := by decide +kernel
theorem dX8_needNumber_83 : decode cX8_needNumber 83 = .ok (.aload_n 0, 1) := by decide +kernel
theorem dX8_needNumber_84 : decode cX8_needNumber 84 = .ok (.getfield 28, 3) := by decide +kernel
theorem dX8_needNumber_87 : decode cX8_needNumber 87 = .ok (.if_icmp .ne 15, 3) := by decide +kernel
theorem dX8_needNumber_90 : decode cX8_needNumber 90 = .ok (.aload_n 0, 1) := by decide +kernel
theorem dX8_needNumber_91 : decode cX8_needNumber 91 = .ok (.iconst 1, 1) := by decide +kernel
theorem dX8_needNumber_92 : decode cX8_needNumber 92 = .ok (.aload_n 0, 1) := by decide +kernel
theorem dX8_needNumber_93 : decode cX8_needNumber 93 = .ok (.getfield 28, 3) := by decide +kernel
theorem dX8_needNumber_96 : decode cX8_needNumber 96 = .ok (.invokevirtual 94, 3) := by decide +kernel
theorem dX8_needNumber_99 : decode cX8_needNumber 99 = .ok (.goto 34, 3) := by decide +kernel
theorem dX8_needNumber_102 : decode cX8_needNumber 102 = .ok (.aload_n 0, 1) := by decide +kernel
theorem dX8_needNumber_103 : decode cX8_needNumber 103 = .ok (.getfield 25, 3) := by decide +kernel
theorem dX8_needNumber_106 : decode cX8_needNumber 106 = .ok (.aload_n 0, 1) := by decide +kernel
theorem dX8_needNumber_107 : decode cX8_needNumber 107 = .ok (.getfield 28, 3) := by decide +kernel
theorem dX8_needNumber_110 : decode cX8_needNumber 110 = .ok (.isub, 1) := by decide +kernel
theorem dX8_needNumber_111 : decode cX8_needNumber 111 = .ok (.iconst 3, 1) := by decide +kernel
theorem dX8_needNumber_112 : decode cX8_needNumber 112 = .ok (.if_icmp .gt 12, 3) := by decide +kernel
theorem dX8_needNumber_115 : decode cX8_needNumber 115 = .ok (.iload_n 3, 1) := by decide +kernel
theorem dX8_needNumber_116 : decode cX8_needNumber 116 = .ok (.iload_n 1, 1) := by decide +kernel
theorem dX8_needNumber_117 : decode cX8_needNumber 117 = .ok (.iload_n 2, 1) := by decide +kernel
theorem dX8_needNumber_118 : decode cX8_needNumber 118 = .ok (.invokestatic 119, 3) := by decide +kernel
theorem dX8_needNumber_121 : decode cX8_needNumber 121 = .ok (.ifCond .ne 12, 3) := by decide +kernel
theorem dX8_needNumber_124 : decode cX8_needNumber 124 = .ok (.aload_n 0, 1) := by decide +kernel
theorem dX8_needNumber_125 : decode cX8_needNumber 125 = .ok (.iconst 2, 1) := by decide +kernel
theorem dX8_needNumber_126 : decode cX8_needNumber 126 = .ok (.aload_n 0, 1) := by decide +kernel
theorem dX8_needNumber_127 : decode cX8_needNumber 127 = .ok (.getfield 28, 3) := by decide +kernel
theorem dX8_needNumber_130 : decode cX8_needNumber 130 = .ok (.invokevirtual 94, 3) := by decide +kernel
theorem dX8_needNumber_133 : decode cX8_needNumber 133 = .ok (.iload_n 3, 1) := by decide +kernel
theorem dX8_needNumber_134 : decode cX8_needNumber 134 = .ok (.ireturn, 1) := by decide +kernel
theorem dX9_init_0 : decode cX9_init 0 = .ok (.aload_n 0, 1) := by decide +kernel
theorem dX9_init_1 : decode cX9_init 1 = .ok (.invokespecial 3, 3) := by decide +kernel
theorem dX9_init_4 : decode cX9_init 4 = .ok (.aload_n 0, 1) := by decide +kernel
theorem dX9_init_5 : decode cX9_init 5 = .ok (.bipush 16, 2) := by decide +kernel
theorem dX9_init_7 : decode cX9_init 7 = .ok (.newarray .int, 2) := by decide +kernel
theorem dX9_init_9 : decode cX9_init 9 = .ok (.putfield 9, 3) := by decide +kernel
theorem dX9_init_12 : decode cX9_init 12 = .ok (.aload_n 0, 1) := by decide +kernel
theorem dX9_init_13 : decode cX9_init 13 = .ok (.bipush 16, 2) := by decide +kernel
theorem dX9_init_15 : decode cX9_init 15 = .ok (.newarray .int, 2) := by decide +kernel
theorem dX9_init_17 : decode cX9_init 17 = .ok (.putfield 15, 3) := by decide +kernel
theorem dX9_init_20 : decode cX9_init 20 = .ok (.aload_n 0, 1) := by decide +kernel
theorem dX9_init_21 : decode cX9_init 21 = .ok (.bipush 16, 2) := by decide +kernel
theorem dX9_init_23 : decode cX9_init 23 = .ok (.newarray .int, 2) := by decide +kernel
theorem dX9_init_25 : decode cX9_init 25 = .ok (.putfield 18, 3) := by decide +kernel
theorem dX9_init_28 : decode cX9_init 28 = .ok (.aload_n 0, 1) := by decide +kernel
theorem dX9_init_29 : decode cX9_init 29 = .ok (.bipush 68, 2) := by decide +kernel
theorem dX9_init_31 : decode cX9_init 31 = .ok (.newarray .int, 2) := by decide +kernel
theorem dX9_init_33 : decode cX9_init 33 = .ok (.putfield 21, 3) := by decide +kernel
theorem dX9_init_36 : decode cX9_init 36 = .ok (.aload_n 0, 1) := by decide +kernel
theorem dX9_init_37 : decode cX9_init 37 = .ok (.bipush 17, 2) := by decide +kernel
theorem dX9_init_39 : decode cX9_init 39 = .ok (.newarray .int, 2) := by decide +kernel
theorem dX9_init_41 : decode cX9_init 41 = .ok (.putfield 24, 3) := by decide +kernel
theorem dX9_init_44 : decode cX9_init 44 = .ok (.aload_n 0, 1) := by decide +kernel
theorem dX9_init_45 : decode cX9_init 45 = .ok (.bipush 17, 2) := by decide +kernel
theorem dX9_init_47 : decode cX9_init 47 = .ok (.newarray .int, 2) := by decide +kernel
theorem dX9_init_49 : decode cX9_init 49 = .ok (.putfield 27, 3) := by decide +kernel
theorem dX9_init_52 : decode cX9_init 52 = .ok (.aload_n 0, 1) := by decide +kernel
theorem dX9_init_53 : decode cX9_init 53 = .ok (.bipush 17, 2) := by decide +kernel
theorem dX9_init_55 : decode cX9_init 55 = .ok (.newarray .int, 2) := by decide +kernel
theorem dX9_init_57 : decode cX9_init 57 = .ok (.putfield 30, 3) := by decide +kernel
theorem dX9_init_60 : decode cX9_init 60 = .ok (.aload_n 0, 1) := by decide +kernel
theorem dX9_init_61 : decode cX9_init 61 = .ok (.bipush 7, 2) := by decide +kernel
theorem dX9_init_63 : decode cX9_init 63 = .ok (.newarray .int, 2) := by decide +kernel
theorem dX9_init_65 : decode cX9_init 65 = .ok (.putfield 33, 3) := by decide +kernel
theorem dX9_init_68 : decode cX9_init 68 = .ok (.aload_n 0, 1) := by decide +kernel
theorem dX9_init_69 : decode cX9_init 69 = .ok (.iconst 0, 1) := by decide +kernel
theorem dX9_init_70 : decode cX9_init 70 = .ok (.putfield 36, 3) := by decide +kernel
theorem dX9_init_73 : decode cX9_init 73 = .ok (.aload_n 0, 1) := by decide +kernel
theorem dX9_init_74 : decode cX9_init 74 = .ok (.iconst 0, 1) := by decide +kernel
theorem dX9_init_75 : decode cX9_init 75 = .ok (.putfield 40, 3) := by decide +kernel
theorem dX9_init_78 : decode cX9_init 78 = .ok (.aload_n 0, 1) := by decide +kernel
theorem dX9_init_79 : decode cX9_init 79 = .ok (.iconst 0, 1) := by decide +kernel
theorem dX9_init_80 : decode cX9_init 80 = .ok (.putfield 43, 3) := by decide +kernel
theorem dX9_init_83 : decode cX9_init 83 = .ok (.aload_n 0, 1) := by decide +kernel
theorem dX9_init_84 : decode cX9_init 84 = .ok (.iconst 0, 1) := by decide +kernel
theorem dX9_init_85 : decode cX9_init 85 = .ok (.putfield 46, 3) := by decide +kernel
theorem dX9_init_88 : decode cX9_init 88 = .ok (.return_, 1) := by decide +kernel
set_option maxRecDepth 20000 in
theorem ggX9_load_X3_walkOf : GoodIn wsX9_load wsX3_walkOf := goodIn_r _ [15, 16, 17, 18, 19, 14, 20, 21, 34, 35, 36, 37, 38, 39, 40] (by decide +kernel) (by decide +kernel)
set_option maxRecDepth 20000 in
theorem gX9_load_X3_walkOf : GoodIn wsX9_load (wsV RX9 60 RX3 yX3_walkOf wsX3_walkOf) := goodIn_app (goodIn_of _ (by decide +kernel)) ggX9_load_X3_walkOf
theorem dX9_load_0 : decode cX9_load 0 = .ok (.aload_n 0, 1) := by decide +kernel
theorem dX9_load_1 : decode cX9_load 1 = .ok (.iconst 0, 1) := by decide +kernel
theorem dX9_load_2 : decode cX9_load 2 = .ok (.putfield 36, 3) := by decide +kernel
theorem dX9_load_5 : decode cX9_load 5 = .ok (.aload_n 0, 1) := by decide +kernel
theorem dX9_load_6 : decode cX9_load 6 = .ok (.aload_n 3, 1) := by decide +kernel
theorem dX9_load_7 : decode cX9_load 7 = .ok (.getfield 49, 3) := by decide +kernel
theorem dX9_load_10 : decode cX9_load 10 = .ok (.putfield 40, 3) := by decide +kernel
theorem dX9_load_13 : decode cX9_load 13 = .ok (.iconst 0, 1) := by decide +kernel
theorem dX9_load_14 : decode cX9_load 14 = .ok (.istore 4, 2) := by decide +kernel
theorem dX9_load_16 : decode cX9_load 16 = .ok (.iload 4, 2) := by decide +kernel
theorem dX9_load_18 : decode cX9_load 18 = .ok (.aload_n 2, 1) := by decide +kernel
theorem dX9_load_19 : decode cX9_load 19 = .ok (.getfield 52, 3) := by decide +kernel
theorem dX9_load_22 : decode cX9_load 22 = .ok (.if_icmp .ge 79, 3) := by decide +kernel
theorem dX9_load_25 : decode cX9_load 25 = .ok (.iload_n 1, 1) := by decide +kernel
theorem dX9_load_26 : decode cX9_load 26 = .ok (.iload 4, 2) := by decide +kernel
theorem dX9_load_28 : decode cX9_load 28 = .ok (.ishr, 1) := by decide +kernel
theorem dX9_load_29 : decode cX9_load 29 = .ok (.iconst 1, 1) := by decide +kernel
theorem dX9_load_30 : decode cX9_load 30 = .ok (.iand, 1) := by decide +kernel
theorem dX9_load_31 : decode cX9_load 31 = .ok (.iconst 1, 1) := by decide +kernel
theorem dX9_load_32 : decode cX9_load 32 = .ok (.if_icmp .ne 63, 3) := by decide +kernel
theorem dX9_load_35 : decode cX9_load 35 = .ok (.aload_n 0, 1) := by decide +kernel
theorem dX9_load_36 : decode cX9_load 36 = .ok (.getfield 9, 3) := by decide +kernel
theorem dX9_load_39 : decode cX9_load 39 = .ok (.iload 4, 2) := by decide +kernel
theorem dX9_load_41 : decode cX9_load 41 = .ok (.iconst 2, 1) := by decide +kernel
theorem dX9_load_42 : decode cX9_load 42 = .ok (.aload_n 3, 1) := by decide +kernel
theorem dX9_load_43 : decode cX9_load 43 = .ok (.aload_n 2, 1) := by decide +kernel
theorem dX9_load_44 : decode cX9_load 44 = .ok (.getfield 57, 3) := by decide +kernel
theorem dX9_load_47 : decode cX9_load 47 = .ok (.iload 4, 2) := by decide +kernel
theorem dX9_load_49 : decode cX9_load 49 = .ok (.iaload, 1) := by decide +kernel
theorem dX9_load_50 : decode cX9_load 50 = .ok (.invokevirtual 60, 3) := by decide +kernel
theorem dX9_load_53 : decode cX9_load 53 = .ok (.imul, 1) := by decide +kernel
theorem dX9_load_54 : decode cX9_load 54 = .ok (.aload_n 3, 1) := by decide +kernel
theorem dX9_load_55 : decode cX9_load 55 = .ok (.getfield 64, 3) := by decide +kernel
theorem dX9_load_58 : decode cX9_load 58 = .ok (.iadd, 1) := by decide +kernel
theorem dX9_load_59 : decode cX9_load 59 = .ok (.iastore, 1) := by decide +kernel
theorem dX9_load_60 : decode cX9_load 60 = .ok (.aload_n 0, 1) := by decide +kernel
theorem dX9_load_61 : decode cX9_load 61 = .ok (.getfield 15, 3) := by decide +kernel
theorem dX9_load_64 : decode cX9_load 64 = .ok (.iload 4, 2) := by decide +kernel
theorem dX9_load_66 : decode cX9_load 66 = .ok (.aload_n 2, 1) := by decide +kernel
theorem dX9_load_67 : decode cX9_load 67 = .ok (.getfield 66, 3) := by decide +kernel
theorem dX9_load_70 : decode cX9_load 70 = .ok (.iload 4, 2) := by decide +kernel
theorem dX9_load_72 : decode cX9_load 72 = .ok (.iaload, 1) := by decide +kernel
theorem dX9_load_73 : decode cX9_load 73 = .ok (.iastore, 1) := by decide +kernel
theorem dX9_load_74 : decode cX9_load 74 = .ok (.aload_n 0, 1) := by decide +kernel
theorem dX9_load_75 : decode cX9_load 75 = .ok (.getfield 18, 3) := by decide +kernel
theorem dX9_load_78 : decode cX9_load 78 = .ok (.aload_n 0, 1) := by decide +kernel
theorem dX9_load_79 : decode cX9_load 79 = .ok (.getfield 36, 3) := by decide +kernel
theorem dX9_load_82 : decode cX9_load 82 = .ok (.iload 4, 2) := by decide +kernel
theorem dX9_load_84 : decode cX9_load 84 = .ok (.iastore, 1) := by decide +kernel
theorem dX9_load_85 : decode cX9_load 85 = .ok (.aload_n 0, 1) := by decide +kernel
theorem dX9_load_86 : decode cX9_load 86 = .ok (.dup, 1) := by decide +kernel
theorem dX9_load_87 : decode cX9_load 87 = .ok (.getfield 36, 3) := by decide +kernel
theorem dX9_load_90 : decode cX9_load 90 = .ok (.iconst 1, 1) := by decide +kernel
theorem dX9_load_91 : decode cX9_load 91 = .ok (.iadd, 1) := by decide +kernel
theorem dX9_load_92 : decode cX9_load 92 = .ok (.putfield 36, 3) := by decide +kernel
theorem dX9_load_95 : decode cX9_load 95 = .ok (.iinc 4 1, 3) := by decide +kernel
theorem dX9_load_98 : decode cX9_load 98 = .ok (.goto (-82), 3) := by decide +kernel
theorem dX9_load_101 : decode cX9_load 101 = .ok (.return_, 1) := by decide +kernel
theorem dX9_sumOfWaits_0 : decode cX9_sumOfWaits 0 = .ok (.aload_n 0, 1) := by decide +kernel
theorem dX9_sumOfWaits_1 : decode cX9_sumOfWaits 1 = .ok (.getfield 24, 3) := by decide +kernel
theorem dX9_sumOfWaits_4 : decode cX9_sumOfWaits 4 = .ok (.aload_n 0, 1) := by decide +kernel
theorem dX9_sumOfWaits_5 : decode cX9_sumOfWaits 5 = .ok (.getfield 36, 3) := by decide +kernel
theorem dX9_sumOfWaits_8 : decode cX9_sumOfWaits 8 = .ok (.iaload, 1) := by decide +kernel
theorem dX9_sumOfWaits_9 : decode cX9_sumOfWaits 9 = .ok (.ireturn, 1) := by decide +kernel
theorem dX9_greatestWait_0 : decode cX9_greatestWait 0 = .ok (.aload_n 0, 1) := by decide +kernel
theorem dX9_greatestWait_1 : decode cX9_greatestWait 1 = .ok (.getfield 27, 3) := by decide +kernel
theorem dX9_greatestWait_4 : decode cX9_greatestWait 4 = .ok (.aload_n 0, 1) := by decide +kernel
theorem dX9_greatestWait_5 : decode cX9_greatestWait 5 = .ok (.getfield 36, 3) := by decide +kernel
theorem dX9_greatestWait_8 : decode cX9_greatestWait 8 = .ok (.iaload, 1) := by decide +kernel
theorem dX9_greatestWait_9 : decode cX9_greatestWait 9 = .ok (.ireturn, 1) := by decide +kernel
theorem dX9_sumOfTips_0 : decode cX9_sumOfTips 0 = .ok (.aload_n 0, 1) := by decide +kernel
theorem dX9_sumOfTips_1 : decode cX9_sumOfTips 1 = .ok (.getfield 30, 3) := by decide +kernel
theorem dX9_sumOfTips_4 : decode cX9_sumOfTips 4 = .ok (.aload_n 0, 1) := by decide +kernel
theorem dX9_sumOfTips_5 : decode cX9_sumOfTips 5 = .ok (.getfield 36, 3) := by decide +kernel
theorem dX9_sumOfTips_8 : decode cX9_sumOfTips 8 = .ok (.iaload, 1) := by decide +kernel
theorem dX9_sumOfTips_9 : decode cX9_sumOfTips 9 = .ok (.ireturn, 1) := by decide +kernel
theorem dX9_bestMember_0 : decode cX9_bestMember 0 = .ok (.iload_n 1, 1) := by decide +kernel
theorem dX9_bestMember_1 : decode cX9_bestMember 1 = .ok (.ifCond .lt 26, 3) := by decide +kernel
theorem dX9_bestMember_4 : decode cX9_bestMember 4 = .ok (.iload_n 1, 1) := by decide +kernel
theorem dX9_bestMember_5 : decode cX9_bestMember 5 = .ok (.aload_n 0, 1) := by decide +kernel
theorem dX9_bestMember_6 : decode cX9_bestMember 6 = .ok (.getfield 36, 3) := by decide +kernel
theorem dX9_bestMember_9 : decode cX9_bestMember 9 = .ok (.if_icmp .ge 18, 3) := by decide +kernel
theorem dX9_bestMember_12 : decode cX9_bestMember 12 = .ok (.iload_n 1, 1) := by decide +kernel
theorem dX9_bestMember_13 : decode cX9_bestMember 13 = .ok (.bipush 7, 2) := by decide +kernel
theorem dX9_bestMember_15 : decode cX9_bestMember 15 = .ok (.if_icmp .ge 12, 3) := by decide +kernel
theorem dX9_bestMember_18 : decode cX9_bestMember 18 = .ok (.aload_n 0, 1) := by decide +kernel
theorem dX9_bestMember_19 : decode cX9_bestMember 19 = .ok (.getfield 33, 3) := by decide +kernel
theorem dX9_bestMember_22 : decode cX9_bestMember 22 = .ok (.iload_n 1, 1) := by decide +kernel
theorem dX9_bestMember_23 : decode cX9_bestMember 23 = .ok (.iaload, 1) := by decide +kernel
theorem dX9_bestMember_24 : decode cX9_bestMember 24 = .ok (.goto 4, 3) := by decide +kernel
theorem dX9_bestMember_27 : decode cX9_bestMember 27 = .ok (.iconst (-1), 1) := by decide +kernel
theorem dX9_bestMember_28 : decode cX9_bestMember 28 = .ok (.ireturn, 1) := by decide +kernel
set_option maxRecDepth 20000 in
theorem ggX9_serveFrom_X9_serve : GoodIn wsX9_serveFrom wsX9_serve := goodIn_r _ [6, 7, 8, 9, 10, 11, 12, 13, 14, 15, 16, 17, 18, 19, 20, 21, 22, 23, 24, 25, 26, 27, 28, 29, 30, 31, 32, 33] (by decide +kernel) (by decide +kernel)
set_option maxRecDepth 20000 in
theorem gX9_serveFrom_X9_serve : GoodIn wsX9_serveFrom (wsV RX9 67 RX9 yX9_serve wsX9_serve) := goodIn_app (goodIn_of _ (by decide +kernel)) ggX9_serveFrom_X9_serve
theorem dX9_serveFrom_0 : decode cX9_serveFrom 0 = .ok (.iload_n 1, 1) := by decide +kernel
theorem dX9_serveFrom_1 : decode cX9_serveFrom 1 = .ok (.ifCond .lt 13, 3) := by decide +kernel
theorem dX9_serveFrom_4 : decode cX9_serveFrom 4 = .ok (.iload_n 2, 1) := by decide +kernel
theorem dX9_serveFrom_5 : decode cX9_serveFrom 5 = .ok (.iconst 1, 1) := by decide +kernel
theorem dX9_serveFrom_6 : decode cX9_serveFrom 6 = .ok (.if_icmp .lt 8, 3) := by decide +kernel
theorem dX9_serveFrom_9 : decode cX9_serveFrom 9 = .ok (.iload_n 2, 1) := by decide +kernel
theorem dX9_serveFrom_10 : decode cX9_serveFrom 10 = .ok (.iconst 4, 1) := by decide +kernel
theorem dX9_serveFrom_11 : decode cX9_serveFrom 11 = .ok (.if_icmp .le 4, 3) := by decide +kernel
theorem dX9_serveFrom_14 : decode cX9_serveFrom 14 = .ok (.return_, 1) := by decide +kernel
theorem dX9_serveFrom_15 : decode cX9_serveFrom 15 = .ok (.iload_n 1, 1) := by decide +kernel
theorem dX9_serveFrom_16 : decode cX9_serveFrom 16 = .ok (.istore_n 3, 1) := by decide +kernel
theorem dX9_serveFrom_17 : decode cX9_serveFrom 17 = .ok (.iload_n 3, 1) := by decide +kernel
theorem dX9_serveFrom_18 : decode cX9_serveFrom 18 = .ok (.aload_n 0, 1) := by decide +kernel
theorem dX9_serveFrom_19 : decode cX9_serveFrom 19 = .ok (.getfield 36, 3) := by decide +kernel
theorem dX9_serveFrom_22 : decode cX9_serveFrom 22 = .ok (.if_icmp .ge 15, 3) := by decide +kernel
theorem dX9_serveFrom_25 : decode cX9_serveFrom 25 = .ok (.aload_n 0, 1) := by decide +kernel
theorem dX9_serveFrom_26 : decode cX9_serveFrom 26 = .ok (.iload_n 3, 1) := by decide +kernel
theorem dX9_serveFrom_27 : decode cX9_serveFrom 27 = .ok (.iload_n 2, 1) := by decide +kernel
theorem dX9_serveFrom_28 : decode cX9_serveFrom 28 = .ok (.invokevirtual 67, 3) := by decide +kernel
theorem dX9_serveFrom_31 : decode cX9_serveFrom 31 = .ok (.iinc 3 1, 3) := by decide +kernel
theorem dX9_serveFrom_34 : decode cX9_serveFrom 34 = .ok (.goto (-17), 3) := by decide +kernel
theorem dX9_serveFrom_37 : decode cX9_serveFrom 37 = .ok (.return_, 1) := by decide +kernel
set_option maxRecDepth 20000 in
theorem ggX9_serve_X10_within : GoodIn wsX9_serve wsX10_within := goodIn_r _ [15] (by decide +kernel) (by decide +kernel)
set_option maxRecDepth 20000 in
theorem gX9_serve_X10_within_n71 : GoodIn wsX9_serve (wsX10_within) := ggX9_serve_X10_within
theorem dX9_serve_0 : decode cX9_serve 0 = .ok (.iload_n 1, 1) := by decide +kernel
theorem dX9_serve_1 : decode cX9_serve 1 = .ok (.iconst 4, 1) := by decide +kernel
theorem dX9_serve_2 : decode cX9_serve 2 = .ok (.imul, 1) := by decide +kernel
theorem dX9_serve_3 : decode cX9_serve 3 = .ok (.istore_n 3, 1) := by decide +kernel
theorem dX9_serve_4 : decode cX9_serve 4 = .ok (.iconst 0, 1) := by decide +kernel
theorem dX9_serve_5 : decode cX9_serve 5 = .ok (.istore 4, 2) := by decide +kernel
theorem dX9_serve_7 : decode cX9_serve 7 = .ok (.iconst 0, 1) := by decide +kernel
theorem dX9_serve_8 : decode cX9_serve 8 = .ok (.istore 5, 2) := by decide +kernel
theorem dX9_serve_10 : decode cX9_serve 10 = .ok (.iload 5, 2) := by decide +kernel
theorem dX9_serve_12 : decode cX9_serve 12 = .ok (.iload_n 2, 1) := by decide +kernel
theorem dX9_serve_13 : decode cX9_serve 13 = .ok (.if_icmp .ge 54, 3) := by decide +kernel
theorem dX9_serve_16 : decode cX9_serve 16 = .ok (.aload_n 0, 1) := by decide +kernel
theorem dX9_serve_17 : decode cX9_serve 17 = .ok (.getfield 21, 3) := by decide +kernel
theorem dX9_serve_20 : decode cX9_serve 20 = .ok (.iload_n 3, 1) := by decide +kernel
theorem dX9_serve_21 : decode cX9_serve 21 = .ok (.iload 5, 2) := by decide +kernel
theorem dX9_serve_23 : decode cX9_serve 23 = .ok (.iadd, 1) := by decide +kernel
theorem dX9_serve_24 : decode cX9_serve 24 = .ok (.iaload, 1) := by decide +kernel
theorem dX9_serve_25 : decode cX9_serve 25 = .ok (.aload_n 0, 1) := by decide +kernel
theorem dX9_serve_26 : decode cX9_serve 26 = .ok (.getfield 21, 3) := by decide +kernel
theorem dX9_serve_29 : decode cX9_serve 29 = .ok (.iload_n 3, 1) := by decide +kernel
theorem dX9_serve_30 : decode cX9_serve 30 = .ok (.iload 4, 2) := by decide +kernel
theorem dX9_serve_32 : decode cX9_serve 32 = .ok (.iadd, 1) := by decide +kernel
theorem dX9_serve_33 : decode cX9_serve 33 = .ok (.iaload, 1) := by decide +kernel
theorem dX9_serve_34 : decode cX9_serve 34 = .ok (.if_icmp .ge 7, 3) := by decide +kernel
theorem dX9_serve_37 : decode cX9_serve 37 = .ok (.iload 5, 2) := by decide +kernel
theorem dX9_serve_39 : decode cX9_serve 39 = .ok (.istore 4, 2) := by decide +kernel
theorem dX9_serve_41 : decode cX9_serve 41 = .ok (.aload_n 0, 1) := by decide +kernel
theorem dX9_serve_42 : decode cX9_serve 42 = .ok (.getfield 21, 3) := by decide +kernel
theorem dX9_serve_45 : decode cX9_serve 45 = .ok (.iload_n 3, 1) := by decide +kernel
theorem dX9_serve_46 : decode cX9_serve 46 = .ok (.iconst 4, 1) := by decide +kernel
theorem dX9_serve_47 : decode cX9_serve 47 = .ok (.iadd, 1) := by decide +kernel
theorem dX9_serve_48 : decode cX9_serve 48 = .ok (.iload 5, 2) := by decide +kernel
theorem dX9_serve_50 : decode cX9_serve 50 = .ok (.iadd, 1) := by decide +kernel
theorem dX9_serve_51 : decode cX9_serve 51 = .ok (.aload_n 0, 1) := by decide +kernel
theorem dX9_serve_52 : decode cX9_serve 52 = .ok (.getfield 21, 3) := by decide +kernel
theorem dX9_serve_55 : decode cX9_serve 55 = .ok (.iload_n 3, 1) := by decide +kernel
theorem dX9_serve_56 : decode cX9_serve 56 = .ok (.iload 5, 2) := by decide +kernel
theorem dX9_serve_58 : decode cX9_serve 58 = .ok (.iadd, 1) := by decide +kernel
theorem dX9_serve_59 : decode cX9_serve 59 = .ok (.iaload, 1) := by decide +kernel
theorem dX9_serve_60 : decode cX9_serve 60 = .ok (.iastore, 1) := by decide +kernel
theorem dX9_serve_61 : decode cX9_serve 61 = .ok (.iinc 5 1, 3) := by decide +kernel
theorem dX9_serve_64 : decode cX9_serve 64 = .ok (.goto (-54), 3) := by decide +kernel
theorem dX9_serve_67 : decode cX9_serve 67 = .ok (.aload_n 0, 1) := by decide +kernel
theorem dX9_serve_68 : decode cX9_serve 68 = .ok (.getfield 18, 3) := by decide +kernel
theorem dX9_serve_71 : decode cX9_serve 71 = .ok (.iload_n 1, 1) := by decide +kernel
theorem dX9_serve_72 : decode cX9_serve 72 = .ok (.iaload, 1) := by decide +kernel
theorem dX9_serve_73 : decode cX9_serve 73 = .ok (.istore 5, 2) := by decide +kernel
theorem dX9_serve_75 : decode cX9_serve 75 = .ok (.iload 5, 2) := by decide +kernel
theorem dX9_serve_77 : decode cX9_serve 77 = .ok (.iconst 0, 1) := by decide +kernel
theorem dX9_serve_78 : decode cX9_serve 78 = .ok (.bipush 15, 2) := by decide +kernel
theorem dX9_serve_80 : decode cX9_serve 80 = .ok (.invokestatic 71, 3) := by decide +kernel
theorem dX9_serve_83 : decode cX9_serve 83 = .ok (.ifCond .ne 4, 3) := by decide +kernel
theorem dX9_serve_86 : decode cX9_serve 86 = .ok (.return_, 1) := by decide +kernel
theorem dX9_serve_87 : decode cX9_serve 87 = .ok (.aload_n 0, 1) := by decide +kernel
theorem dX9_serve_88 : decode cX9_serve 88 = .ok (.getfield 21, 3) := by decide +kernel
theorem dX9_serve_91 : decode cX9_serve 91 = .ok (.iload_n 3, 1) := by decide +kernel
theorem dX9_serve_92 : decode cX9_serve 92 = .ok (.iload 4, 2) := by decide +kernel
theorem dX9_serve_94 : decode cX9_serve 94 = .ok (.iadd, 1) := by decide +kernel
theorem dX9_serve_95 : decode cX9_serve 95 = .ok (.iaload, 1) := by decide +kernel
theorem dX9_serve_96 : decode cX9_serve 96 = .ok (.aload_n 0, 1) := by decide +kernel
theorem dX9_serve_97 : decode cX9_serve 97 = .ok (.getfield 9, 3) := by decide +kernel
theorem dX9_serve_100 : decode cX9_serve 100 = .ok (.iload 5, 2) := by decide +kernel
theorem dX9_serve_102 : decode cX9_serve 102 = .ok (.iaload, 1) := by decide +kernel
theorem dX9_serve_103 : decode cX9_serve 103 = .ok (.iadd, 1) := by decide +kernel
theorem dX9_serve_104 : decode cX9_serve 104 = .ok (.istore 6, 2) := by decide +kernel
theorem dX9_serve_106 : decode cX9_serve 106 = .ok (.aload_n 0, 1) := by decide +kernel
theorem dX9_serve_107 : decode cX9_serve 107 = .ok (.getfield 21, 3) := by decide +kernel
theorem dX9_serve_110 : decode cX9_serve 110 = .ok (.iload_n 3, 1) := by decide +kernel
theorem dX9_serve_111 : decode cX9_serve 111 = .ok (.iconst 4, 1) := by decide +kernel
theorem dX9_serve_112 : decode cX9_serve 112 = .ok (.iadd, 1) := by decide +kernel
theorem dX9_serve_113 : decode cX9_serve 113 = .ok (.iload 4, 2) := by decide +kernel
theorem dX9_serve_115 : decode cX9_serve 115 = .ok (.iadd, 1) := by decide +kernel
theorem dX9_serve_116 : decode cX9_serve 116 = .ok (.iload 6, 2) := by decide +kernel
theorem dX9_serve_118 : decode cX9_serve 118 = .ok (.iastore, 1) := by decide +kernel
theorem dX9_serve_119 : decode cX9_serve 119 = .ok (.aload_n 0, 1) := by decide +kernel
theorem dX9_serve_120 : decode cX9_serve 120 = .ok (.getfield 24, 3) := by decide +kernel
theorem dX9_serve_123 : decode cX9_serve 123 = .ok (.iload_n 1, 1) := by decide +kernel
theorem dX9_serve_124 : decode cX9_serve 124 = .ok (.iconst 1, 1) := by decide +kernel
theorem dX9_serve_125 : decode cX9_serve 125 = .ok (.iadd, 1) := by decide +kernel
theorem dX9_serve_126 : decode cX9_serve 126 = .ok (.aload_n 0, 1) := by decide +kernel
theorem dX9_serve_127 : decode cX9_serve 127 = .ok (.getfield 24, 3) := by decide +kernel
theorem dX9_serve_130 : decode cX9_serve 130 = .ok (.iload_n 1, 1) := by decide +kernel
theorem dX9_serve_131 : decode cX9_serve 131 = .ok (.iaload, 1) := by decide +kernel
theorem dX9_serve_132 : decode cX9_serve 132 = .ok (.iload 6, 2) := by decide +kernel
theorem dX9_serve_134 : decode cX9_serve 134 = .ok (.iadd, 1) := by decide +kernel
theorem dX9_serve_135 : decode cX9_serve 135 = .ok (.iastore, 1) := by decide +kernel
theorem dX9_serve_136 : decode cX9_serve 136 = .ok (.aload_n 0, 1) := by decide +kernel
theorem dX9_serve_137 : decode cX9_serve 137 = .ok (.getfield 27, 3) := by decide +kernel
theorem dX9_serve_140 : decode cX9_serve 140 = .ok (.iload_n 1, 1) := by decide +kernel
theorem dX9_serve_141 : decode cX9_serve 141 = .ok (.iconst 1, 1) := by decide +kernel
theorem dX9_serve_142 : decode cX9_serve 142 = .ok (.iadd, 1) := by decide +kernel
theorem dX9_serve_143 : decode cX9_serve 143 = .ok (.aload_n 0, 1) := by decide +kernel
theorem dX9_serve_144 : decode cX9_serve 144 = .ok (.getfield 27, 3) := by decide +kernel
theorem dX9_serve_147 : decode cX9_serve 147 = .ok (.iload_n 1, 1) := by decide +kernel
theorem dX9_serve_148 : decode cX9_serve 148 = .ok (.iaload, 1) := by decide +kernel
theorem dX9_serve_149 : decode cX9_serve 149 = .ok (.iload 6, 2) := by decide +kernel
theorem dX9_serve_151 : decode cX9_serve 151 = .ok (.invokestatic 75, 3) := by decide +kernel
theorem dX9_serve_154 : decode cX9_serve 154 = .ok (.iastore, 1) := by decide +kernel
theorem dX9_serve_155 : decode cX9_serve 155 = .ok (.aload_n 0, 1) := by decide +kernel
theorem dX9_serve_156 : decode cX9_serve 156 = .ok (.getfield 30, 3) := by decide +kernel
theorem dX9_serve_159 : decode cX9_serve 159 = .ok (.iload_n 1, 1) := by decide +kernel
theorem dX9_serve_160 : decode cX9_serve 160 = .ok (.iconst 1, 1) := by decide +kernel
theorem dX9_serve_161 : decode cX9_serve 161 = .ok (.iadd, 1) := by decide +kernel
theorem dX9_serve_162 : decode cX9_serve 162 = .ok (.aload_n 0, 1) := by decide +kernel
theorem dX9_serve_163 : decode cX9_serve 163 = .ok (.getfield 30, 3) := by decide +kernel
theorem dX9_serve_166 : decode cX9_serve 166 = .ok (.iload_n 1, 1) := by decide +kernel
theorem dX9_serve_167 : decode cX9_serve 167 = .ok (.iaload, 1) := by decide +kernel
theorem dX9_serve_168 : decode cX9_serve 168 = .ok (.iconst 0, 1) := by decide +kernel
theorem dX9_serve_169 : decode cX9_serve 169 = .ok (.aload_n 0, 1) := by decide +kernel
theorem dX9_serve_170 : decode cX9_serve 170 = .ok (.getfield 15, 3) := by decide +kernel
theorem dX9_serve_173 : decode cX9_serve 173 = .ok (.iload 5, 2) := by decide +kernel
theorem dX9_serve_175 : decode cX9_serve 175 = .ok (.iaload, 1) := by decide +kernel
theorem dX9_serve_176 : decode cX9_serve 176 = .ok (.aload_n 0, 1) := by decide +kernel
theorem dX9_serve_177 : decode cX9_serve 177 = .ok (.getfield 40, 3) := by decide +kernel
theorem dX9_serve_180 : decode cX9_serve 180 = .ok (.iload 6, 2) := by decide +kernel
theorem dX9_serve_182 : decode cX9_serve 182 = .ok (.imul, 1) := by decide +kernel
theorem dX9_serve_183 : decode cX9_serve 183 = .ok (.bipush 10, 2) := by decide +kernel
theorem dX9_serve_185 : decode cX9_serve 185 = .ok (.idiv, 1) := by decide +kernel
theorem dX9_serve_186 : decode cX9_serve 186 = .ok (.isub, 1) := by decide +kernel
theorem dX9_serve_187 : decode cX9_serve 187 = .ok (.invokestatic 75, 3) := by decide +kernel
theorem dX9_serve_190 : decode cX9_serve 190 = .ok (.iadd, 1) := by decide +kernel
theorem dX9_serve_191 : decode cX9_serve 191 = .ok (.iastore, 1) := by decide +kernel
theorem dX9_serve_192 : decode cX9_serve 192 = .ok (.return_, 1) := by decide +kernel
set_option maxRecDepth 20000 in
theorem ggX9_findBest_X9_serveFrom : GoodIn wsX9_findBest wsX9_serveFrom := goodIn_r _ [7, 8, 9, 10, 11, 6, 12, 13, 14, 15, 16, 17, 18, 19, 20, 21, 22, 23, 24, 25, 26, 27, 49, 50, 51, 52, 53, 54, 55, 56, 57, 58, 59, 60] (by decide +kernel) (by decide +kernel)
set_option maxRecDepth 20000 in
theorem gX9_findBest_X9_serveFrom : GoodIn wsX9_findBest (wsV RX9 81 RX9 yX9_serveFrom wsX9_serveFrom) := goodIn_app (goodIn_of _ (by decide +kernel)) ggX9_findBest_X9_serveFrom
set_option maxRecDepth 20000 in
theorem ggX9_findBest_X9_keepAsBest : GoodIn wsX9_findBest wsX9_keepAsBest := goodIn_r _ [31, 1, 2, 8, 32, 14, 33, 34, 35, 6, 36, 22, 37, 38, 39, 40, 16, 49, 50, 51, 52, 53, 54, 55, 56, 57, 58, 59, 60] (by decide +kernel) (by decide +kernel)
set_option maxRecDepth 20000 in
theorem gX9_findBest_X9_keepAsBest : GoodIn wsX9_findBest (wsV RX9 84 RX9 yX9_keepAsBest wsX9_keepAsBest) := goodIn_app (goodIn_of _ (by decide +kernel)) ggX9_findBest_X9_keepAsBest
set_option maxRecDepth 20000 in
theorem ggX9_findBest_X9_toNextRow : GoodIn wsX9_findBest wsX9_toNextRow := goodIn_r _ [44, 8, 14, 45, 46, 47, 6, 48, 25, 26, 27, 49, 50, 51, 52, 53, 54, 55, 56, 57, 58, 59, 60] (by decide +kernel) (by decide +kernel)
set_option maxRecDepth 20000 in
theorem gX9_findBest_X9_toNextRow : GoodIn wsX9_findBest (wsV RX9 87 RX9 yX9_toNextRow wsX9_toNextRow) := goodIn_app (goodIn_of _ (by decide +kernel)) ggX9_findBest_X9_toNextRow
set_option maxRecDepth 20000 in
theorem ggX9_findBest_X9_sumOfTips : GoodIn wsX9_findBest wsX9_sumOfTips := goodIn_r _ [36, 22, 8, 49, 50, 51, 52, 53, 54, 55, 56, 57, 58, 59, 60] (by decide +kernel) (by decide +kernel)
set_option maxRecDepth 20000 in
theorem gX9_findBest_X9_sumOfTips : GoodIn wsX9_findBest (wsV RX9 91 RX9 yX9_sumOfTips wsX9_sumOfTips) := goodIn_app (goodIn_of _ (by decide +kernel)) ggX9_findBest_X9_sumOfTips
set_option maxRecDepth 20000 in
theorem ggX9_findBest_X9_sumOfWaits : GoodIn wsX9_findBest wsX9_sumOfWaits := goodIn_r _ [40, 16, 8, 49, 50, 51, 52, 53, 54, 55, 56, 57, 58, 59, 60] (by decide +kernel) (by decide +kernel)
set_option maxRecDepth 20000 in
theorem gX9_findBest_X9_sumOfWaits : GoodIn wsX9_findBest (wsV RX9 94 RX9 yX9_sumOfWaits wsX9_sumOfWaits) := goodIn_app (goodIn_of _ (by decide +kernel)) ggX9_findBest_X9_sumOfWaits
theorem dX9_findBest_0 : decode cX9_findBest 0 = .ok (.aload_n 0, 1) := by decide +kernel
theorem dX9_findBest_1 : decode cX9_findBest 1 = .ok (.iconst 0, 1) := by decide +kernel
theorem dX9_findBest_2 : decode cX9_findBest 2 = .ok (.iload_n 1, 1) := by decide +kernel
theorem dX9_findBest_3 : decode cX9_findBest 3 = .ok (.invokevirtual 81, 3) := by decide +kernel
theorem dX9_findBest_6 : decode cX9_findBest 6 = .ok (.aload_n 0, 1) := by decide +kernel
theorem dX9_findBest_7 : decode cX9_findBest 7 = .ok (.invokevirtual 84, 3) := by decide +kernel
theorem dX9_findBest_10 : decode cX9_findBest 10 = .ok (.iconst 1, 1) := by decide +kernel
theorem dX9_findBest_11 : decode cX9_findBest 11 = .ok (.istore_n 2, 1) := by decide +kernel
theorem dX9_findBest_12 : decode cX9_findBest 12 = .ok (.iload_n 2, 1) := by decide +kernel
theorem dX9_findBest_13 : decode cX9_findBest 13 = .ok (.sipush 5040, 3) := by decide +kernel
theorem dX9_findBest_16 : decode cX9_findBest 16 = .ok (.if_icmp .ge 75, 3) := by decide +kernel
theorem dX9_findBest_19 : decode cX9_findBest 19 = .ok (.aload_n 0, 1) := by decide +kernel
theorem dX9_findBest_20 : decode cX9_findBest 20 = .ok (.invokevirtual 87, 3) := by decide +kernel
theorem dX9_findBest_23 : decode cX9_findBest 23 = .ok (.istore_n 3, 1) := by decide +kernel
theorem dX9_findBest_24 : decode cX9_findBest 24 = .ok (.iload_n 3, 1) := by decide +kernel
theorem dX9_findBest_25 : decode cX9_findBest 25 = .ok (.iconst (-1), 1) := by decide +kernel
theorem dX9_findBest_26 : decode cX9_findBest 26 = .ok (.if_icmp .ne 4, 3) := by decide +kernel
theorem dX9_findBest_29 : decode cX9_findBest 29 = .ok (.return_, 1) := by decide +kernel
theorem dX9_findBest_30 : decode cX9_findBest 30 = .ok (.aload_n 0, 1) := by decide +kernel
theorem dX9_findBest_31 : decode cX9_findBest 31 = .ok (.iload_n 3, 1) := by decide +kernel
theorem dX9_findBest_32 : decode cX9_findBest 32 = .ok (.iload_n 1, 1) := by decide +kernel
theorem dX9_findBest_33 : decode cX9_findBest 33 = .ok (.invokevirtual 81, 3) := by decide +kernel
theorem dX9_findBest_36 : decode cX9_findBest 36 = .ok (.aload_n 0, 1) := by decide +kernel
theorem dX9_findBest_37 : decode cX9_findBest 37 = .ok (.invokevirtual 91, 3) := by decide +kernel
theorem dX9_findBest_40 : decode cX9_findBest 40 = .ok (.aload_n 0, 1) := by decide +kernel
theorem dX9_findBest_41 : decode cX9_findBest 41 = .ok (.getfield 43, 3) := by decide +kernel
theorem dX9_findBest_44 : decode cX9_findBest 44 = .ok (.if_icmp .ne 7, 3) := by decide +kernel
theorem dX9_findBest_47 : decode cX9_findBest 47 = .ok (.iconst 1, 1) := by decide +kernel
theorem dX9_findBest_48 : decode cX9_findBest 48 = .ok (.goto 4, 3) := by decide +kernel
theorem dX9_findBest_51 : decode cX9_findBest 51 = .ok (.iconst 0, 1) := by decide +kernel
theorem dX9_findBest_52 : decode cX9_findBest 52 = .ok (.istore 4, 2) := by decide +kernel
theorem dX9_findBest_54 : decode cX9_findBest 54 = .ok (.aload_n 0, 1) := by decide +kernel
theorem dX9_findBest_55 : decode cX9_findBest 55 = .ok (.invokevirtual 91, 3) := by decide +kernel
theorem dX9_findBest_58 : decode cX9_findBest 58 = .ok (.aload_n 0, 1) := by decide +kernel
theorem dX9_findBest_59 : decode cX9_findBest 59 = .ok (.getfield 43, 3) := by decide +kernel
theorem dX9_findBest_62 : decode cX9_findBest 62 = .ok (.if_icmp .gt 19, 3) := by decide +kernel
theorem dX9_findBest_65 : decode cX9_findBest 65 = .ok (.iload 4, 2) := by decide +kernel
theorem dX9_findBest_67 : decode cX9_findBest 67 = .ok (.ifCond .eq 18, 3) := by decide +kernel
theorem dX9_findBest_70 : decode cX9_findBest 70 = .ok (.aload_n 0, 1) := by decide +kernel
theorem dX9_findBest_71 : decode cX9_findBest 71 = .ok (.invokevirtual 94, 3) := by decide +kernel
theorem dX9_findBest_74 : decode cX9_findBest 74 = .ok (.aload_n 0, 1) := by decide +kernel
theorem dX9_findBest_75 : decode cX9_findBest 75 = .ok (.getfield 46, 3) := by decide +kernel
theorem dX9_findBest_78 : decode cX9_findBest 78 = .ok (.if_icmp .ge 7, 3) := by decide +kernel
theorem dX9_findBest_81 : decode cX9_findBest 81 = .ok (.aload_n 0, 1) := by decide +kernel
theorem dX9_findBest_82 : decode cX9_findBest 82 = .ok (.invokevirtual 84, 3) := by decide +kernel
theorem dX9_findBest_85 : decode cX9_findBest 85 = .ok (.iinc 2 1, 3) := by decide +kernel
theorem dX9_findBest_88 : decode cX9_findBest 88 = .ok (.goto (-76), 3) := by decide +kernel
theorem dX9_findBest_91 : decode cX9_findBest 91 = .ok (.return_, 1) := by decide +kernel
set_option maxRecDepth 20000 in
theorem ggX9_keepAsBest_X9_sumOfTips : GoodIn wsX9_keepAsBest wsX9_sumOfTips := goodIn_r _ [10, 11, 3, 17, 18, 19, 20, 21, 22, 23, 24, 25, 26, 27, 28] (by decide +kernel) (by decide +kernel)
set_option maxRecDepth 20000 in
theorem gX9_keepAsBest_X9_sumOfTips : GoodIn wsX9_keepAsBest (wsV RX9 91 RX9 yX9_sumOfTips wsX9_sumOfTips) := goodIn_app (goodIn_of _ (by decide +kernel)) ggX9_keepAsBest_X9_sumOfTips
set_option maxRecDepth 20000 in
theorem ggX9_keepAsBest_X9_sumOfWaits : GoodIn wsX9_keepAsBest wsX9_sumOfWaits := goodIn_r _ [15, 16, 3, 17, 18, 19, 20, 21, 22, 23, 24, 25, 26, 27, 28] (by decide +kernel) (by decide +kernel)
set_option maxRecDepth 20000 in
theorem gX9_keepAsBest_X9_sumOfWaits : GoodIn wsX9_keepAsBest (wsV RX9 94 RX9 yX9_sumOfWaits wsX9_sumOfWaits) := goodIn_app (goodIn_of _ (by decide +kernel)) ggX9_keepAsBest_X9_sumOfWaits
theorem dX9_keepAsBest_0 : decode cX9_keepAsBest 0 = .ok (.aload_n 0, 1) := by decide +kernel
theorem dX9_keepAsBest_1 : decode cX9_keepAsBest 1 = .ok (.aload_n 0, 1) := by decide +kernel
theorem dX9_keepAsBest_2 : decode cX9_keepAsBest 2 = .ok (.invokevirtual 91, 3) := by decide +kernel
theorem dX9_keepAsBest_5 : decode cX9_keepAsBest 5 = .ok (.putfield 43, 3) := by decide +kernel
theorem dX9_keepAsBest_8 : decode cX9_keepAsBest 8 = .ok (.aload_n 0, 1) := by decide +kernel
theorem dX9_keepAsBest_9 : decode cX9_keepAsBest 9 = .ok (.aload_n 0, 1) := by decide +kernel
theorem dX9_keepAsBest_10 : decode cX9_keepAsBest 10 = .ok (.invokevirtual 94, 3) := by decide +kernel
theorem dX9_keepAsBest_13 : decode cX9_keepAsBest 13 = .ok (.putfield 46, 3) := by decide +kernel
theorem dX9_keepAsBest_16 : decode cX9_keepAsBest 16 = .ok (.iconst 0, 1) := by decide +kernel
theorem dX9_keepAsBest_17 : decode cX9_keepAsBest 17 = .ok (.istore_n 1, 1) := by decide +kernel
theorem dX9_keepAsBest_18 : decode cX9_keepAsBest 18 = .ok (.iload_n 1, 1) := by decide +kernel
theorem dX9_keepAsBest_19 : decode cX9_keepAsBest 19 = .ok (.aload_n 0, 1) := by decide +kernel
theorem dX9_keepAsBest_20 : decode cX9_keepAsBest 20 = .ok (.getfield 36, 3) := by decide +kernel
theorem dX9_keepAsBest_23 : decode cX9_keepAsBest 23 = .ok (.if_icmp .ge 27, 3) := by decide +kernel
theorem dX9_keepAsBest_26 : decode cX9_keepAsBest 26 = .ok (.iload_n 1, 1) := by decide +kernel
theorem dX9_keepAsBest_27 : decode cX9_keepAsBest 27 = .ok (.bipush 7, 2) := by decide +kernel
theorem dX9_keepAsBest_29 : decode cX9_keepAsBest 29 = .ok (.if_icmp .ge 21, 3) := by decide +kernel
theorem dX9_keepAsBest_32 : decode cX9_keepAsBest 32 = .ok (.aload_n 0, 1) := by decide +kernel
theorem dX9_keepAsBest_33 : decode cX9_keepAsBest 33 = .ok (.getfield 33, 3) := by decide +kernel
theorem dX9_keepAsBest_36 : decode cX9_keepAsBest 36 = .ok (.iload_n 1, 1) := by decide +kernel
theorem dX9_keepAsBest_37 : decode cX9_keepAsBest 37 = .ok (.aload_n 0, 1) := by decide +kernel
theorem dX9_keepAsBest_38 : decode cX9_keepAsBest 38 = .ok (.getfield 18, 3) := by decide +kernel
theorem dX9_keepAsBest_41 : decode cX9_keepAsBest 41 = .ok (.iload_n 1, 1) := by decide +kernel
theorem dX9_keepAsBest_42 : decode cX9_keepAsBest 42 = .ok (.iaload, 1) := by decide +kernel
theorem dX9_keepAsBest_43 : decode cX9_keepAsBest 43 = .ok (.iastore, 1) := by decide +kernel
theorem dX9_keepAsBest_44 : decode cX9_keepAsBest 44 = .ok (.iinc 1 1, 3) := by decide +kernel
theorem dX9_keepAsBest_47 : decode cX9_keepAsBest 47 = .ok (.goto (-29), 3) := by decide +kernel
theorem dX9_keepAsBest_50 : decode cX9_keepAsBest 50 = .ok (.return_, 1) := by decide +kernel
set_option maxRecDepth 20000 in
theorem ggX9_toNextRow_X9_swap : GoodIn wsX9_toNextRow wsX9_swap := goodIn_r _ [7, 2, 8, 9, 10, 11, 12, 13, 14, 15, 16, 17, 18, 19, 20, 21, 22] (by decide +kernel) (by decide +kernel)
set_option maxRecDepth 20000 in
theorem gX9_toNextRow_X9_swap : GoodIn wsX9_toNextRow (wsV RX9 97 RX9 yX9_swap wsX9_swap) := goodIn_app (goodIn_of _ (by decide +kernel)) ggX9_toNextRow_X9_swap
theorem dX9_toNextRow_0 : decode cX9_toNextRow 0 = .ok (.aload_n 0, 1) := by decide +kernel
theorem dX9_toNextRow_1 : decode cX9_toNextRow 1 = .ok (.getfield 36, 3) := by decide +kernel
theorem dX9_toNextRow_4 : decode cX9_toNextRow 4 = .ok (.iconst 2, 1) := by decide +kernel
theorem dX9_toNextRow_5 : decode cX9_toNextRow 5 = .ok (.isub, 1) := by decide +kernel
theorem dX9_toNextRow_6 : decode cX9_toNextRow 6 = .ok (.istore_n 1, 1) := by decide +kernel
theorem dX9_toNextRow_7 : decode cX9_toNextRow 7 = .ok (.iload_n 1, 1) := by decide +kernel
theorem dX9_toNextRow_8 : decode cX9_toNextRow 8 = .ok (.ifCond .lt 26, 3) := by decide +kernel
theorem dX9_toNextRow_11 : decode cX9_toNextRow 11 = .ok (.aload_n 0, 1) := by decide +kernel
theorem dX9_toNextRow_12 : decode cX9_toNextRow 12 = .ok (.getfield 18, 3) := by decide +kernel
theorem dX9_toNextRow_15 : decode cX9_toNextRow 15 = .ok (.iload_n 1, 1) := by decide +kernel
theorem dX9_toNextRow_16 : decode cX9_toNextRow 16 = .ok (.iaload, 1) := by decide +kernel
theorem dX9_toNextRow_17 : decode cX9_toNextRow 17 = .ok (.aload_n 0, 1) := by decide +kernel
theorem dX9_toNextRow_18 : decode cX9_toNextRow 18 = .ok (.getfield 18, 3) := by decide +kernel
theorem dX9_toNextRow_21 : decode cX9_toNextRow 21 = .ok (.iload_n 1, 1) := by decide +kernel
theorem dX9_toNextRow_22 : decode cX9_toNextRow 22 = .ok (.iconst 1, 1) := by decide +kernel
theorem dX9_toNextRow_23 : decode cX9_toNextRow 23 = .ok (.iadd, 1) := by decide +kernel
theorem dX9_toNextRow_24 : decode cX9_toNextRow 24 = .ok (.iaload, 1) := by decide +kernel
theorem dX9_toNextRow_25 : decode cX9_toNextRow 25 = .ok (.if_icmp .le 9, 3) := by decide +kernel
theorem dX9_toNextRow_28 : decode cX9_toNextRow 28 = .ok (.iinc 1 (-1), 3) := by decide +kernel
theorem dX9_toNextRow_31 : decode cX9_toNextRow 31 = .ok (.goto (-24), 3) := by decide +kernel
theorem dX9_toNextRow_34 : decode cX9_toNextRow 34 = .ok (.iload_n 1, 1) := by decide +kernel
theorem dX9_toNextRow_35 : decode cX9_toNextRow 35 = .ok (.ifCond .ge 5, 3) := by decide +kernel
theorem dX9_toNextRow_38 : decode cX9_toNextRow 38 = .ok (.iconst (-1), 1) := by decide +kernel
theorem dX9_toNextRow_39 : decode cX9_toNextRow 39 = .ok (.ireturn, 1) := by decide +kernel
theorem dX9_toNextRow_40 : decode cX9_toNextRow 40 = .ok (.aload_n 0, 1) := by decide +kernel
theorem dX9_toNextRow_41 : decode cX9_toNextRow 41 = .ok (.getfield 36, 3) := by decide +kernel
theorem dX9_toNextRow_44 : decode cX9_toNextRow 44 = .ok (.iconst 1, 1) := by decide +kernel
theorem dX9_toNextRow_45 : decode cX9_toNextRow 45 = .ok (.isub, 1) := by decide +kernel
theorem dX9_toNextRow_46 : decode cX9_toNextRow 46 = .ok (.istore_n 2, 1) := by decide +kernel
theorem dX9_toNextRow_47 : decode cX9_toNextRow 47 = .ok (.iload_n 2, 1) := by decide +kernel
theorem dX9_toNextRow_48 : decode cX9_toNextRow 48 = .ok (.iload_n 1, 1) := by decide +kernel
theorem dX9_toNextRow_49 : decode cX9_toNextRow 49 = .ok (.if_icmp .le 24, 3) := by decide +kernel
theorem dX9_toNextRow_52 : decode cX9_toNextRow 52 = .ok (.aload_n 0, 1) := by decide +kernel
theorem dX9_toNextRow_53 : decode cX9_toNextRow 53 = .ok (.getfield 18, 3) := by decide +kernel
theorem dX9_toNextRow_56 : decode cX9_toNextRow 56 = .ok (.iload_n 2, 1) := by decide +kernel
theorem dX9_toNextRow_57 : decode cX9_toNextRow 57 = .ok (.iaload, 1) := by decide +kernel
theorem dX9_toNextRow_58 : decode cX9_toNextRow 58 = .ok (.aload_n 0, 1) := by decide +kernel
theorem dX9_toNextRow_59 : decode cX9_toNextRow 59 = .ok (.getfield 18, 3) := by decide +kernel
theorem dX9_toNextRow_62 : decode cX9_toNextRow 62 = .ok (.iload_n 1, 1) := by decide +kernel
theorem dX9_toNextRow_63 : decode cX9_toNextRow 63 = .ok (.iaload, 1) := by decide +kernel
theorem dX9_toNextRow_64 : decode cX9_toNextRow 64 = .ok (.if_icmp .ge 9, 3) := by decide +kernel
theorem dX9_toNextRow_67 : decode cX9_toNextRow 67 = .ok (.iinc 2 (-1), 3) := by decide +kernel
theorem dX9_toNextRow_70 : decode cX9_toNextRow 70 = .ok (.goto (-23), 3) := by decide +kernel
theorem dX9_toNextRow_73 : decode cX9_toNextRow 73 = .ok (.aload_n 0, 1) := by decide +kernel
theorem dX9_toNextRow_74 : decode cX9_toNextRow 74 = .ok (.iload_n 1, 1) := by decide +kernel
theorem dX9_toNextRow_75 : decode cX9_toNextRow 75 = .ok (.iload_n 2, 1) := by decide +kernel
theorem dX9_toNextRow_76 : decode cX9_toNextRow 76 = .ok (.invokevirtual 97, 3) := by decide +kernel
theorem dX9_toNextRow_79 : decode cX9_toNextRow 79 = .ok (.iload_n 1, 1) := by decide +kernel
theorem dX9_toNextRow_80 : decode cX9_toNextRow 80 = .ok (.iconst 1, 1) := by decide +kernel
theorem dX9_toNextRow_81 : decode cX9_toNextRow 81 = .ok (.iadd, 1) := by decide +kernel
theorem dX9_toNextRow_82 : decode cX9_toNextRow 82 = .ok (.istore_n 3, 1) := by decide +kernel
theorem dX9_toNextRow_83 : decode cX9_toNextRow 83 = .ok (.aload_n 0, 1) := by decide +kernel
theorem dX9_toNextRow_84 : decode cX9_toNextRow 84 = .ok (.getfield 36, 3) := by decide +kernel
theorem dX9_toNextRow_87 : decode cX9_toNextRow 87 = .ok (.iconst 1, 1) := by decide +kernel
theorem dX9_toNextRow_88 : decode cX9_toNextRow 88 = .ok (.isub, 1) := by decide +kernel
theorem dX9_toNextRow_89 : decode cX9_toNextRow 89 = .ok (.istore 4, 2) := by decide +kernel
theorem dX9_toNextRow_91 : decode cX9_toNextRow 91 = .ok (.iload_n 3, 1) := by decide +kernel
theorem dX9_toNextRow_92 : decode cX9_toNextRow 92 = .ok (.iload 4, 2) := by decide +kernel
theorem dX9_toNextRow_94 : decode cX9_toNextRow 94 = .ok (.if_icmp .ge 19, 3) := by decide +kernel
theorem dX9_toNextRow_97 : decode cX9_toNextRow 97 = .ok (.aload_n 0, 1) := by decide +kernel
theorem dX9_toNextRow_98 : decode cX9_toNextRow 98 = .ok (.iload_n 3, 1) := by decide +kernel
theorem dX9_toNextRow_99 : decode cX9_toNextRow 99 = .ok (.iload 4, 2) := by decide +kernel
theorem dX9_toNextRow_101 : decode cX9_toNextRow 101 = .ok (.invokevirtual 97, 3) := by decide +kernel
theorem dX9_toNextRow_104 : decode cX9_toNextRow 104 = .ok (.iinc 3 1, 3) := by decide +kernel
theorem dX9_toNextRow_107 : decode cX9_toNextRow 107 = .ok (.iinc 4 (-1), 3) := by decide +kernel
theorem dX9_toNextRow_110 : decode cX9_toNextRow 110 = .ok (.goto (-19), 3) := by decide +kernel
theorem dX9_toNextRow_113 : decode cX9_toNextRow 113 = .ok (.iload_n 1, 1) := by decide +kernel
theorem dX9_toNextRow_114 : decode cX9_toNextRow 114 = .ok (.ireturn, 1) := by decide +kernel
set_option maxRecDepth 20000 in
theorem ggX9_swap_X10_within : GoodIn wsX9_swap wsX10_within := goodIn_r _ [4] (by decide +kernel) (by decide +kernel)
set_option maxRecDepth 20000 in
theorem gX9_swap_X10_within_n71 : GoodIn wsX9_swap (wsX10_within) := ggX9_swap_X10_within
theorem dX9_swap_0 : decode cX9_swap 0 = .ok (.iload_n 1, 1) := by decide +kernel
theorem dX9_swap_1 : decode cX9_swap 1 = .ok (.iconst 0, 1) := by decide +kernel
theorem dX9_swap_2 : decode cX9_swap 2 = .ok (.bipush 15, 2) := by decide +kernel
theorem dX9_swap_4 : decode cX9_swap 4 = .ok (.invokestatic 71, 3) := by decide +kernel
theorem dX9_swap_7 : decode cX9_swap 7 = .ok (.ifCond .eq 13, 3) := by decide +kernel
theorem dX9_swap_10 : decode cX9_swap 10 = .ok (.iload_n 2, 1) := by decide +kernel
theorem dX9_swap_11 : decode cX9_swap 11 = .ok (.iconst 0, 1) := by decide +kernel
theorem dX9_swap_12 : decode cX9_swap 12 = .ok (.bipush 15, 2) := by decide +kernel
theorem dX9_swap_14 : decode cX9_swap 14 = .ok (.invokestatic 71, 3) := by decide +kernel
theorem dX9_swap_17 : decode cX9_swap 17 = .ok (.ifCond .ne 4, 3) := by decide +kernel
theorem dX9_swap_20 : decode cX9_swap 20 = .ok (.return_, 1) := by decide +kernel
theorem dX9_swap_21 : decode cX9_swap 21 = .ok (.aload_n 0, 1) := by decide +kernel
theorem dX9_swap_22 : decode cX9_swap 22 = .ok (.getfield 18, 3) := by decide +kernel
theorem dX9_swap_25 : decode cX9_swap 25 = .ok (.iload_n 1, 1) := by decide +kernel
theorem dX9_swap_26 : decode cX9_swap 26 = .ok (.iaload, 1) := by decide +kernel
theorem dX9_swap_27 : decode cX9_swap 27 = .ok (.istore_n 3, 1) := by decide +kernel
theorem dX9_swap_28 : decode cX9_swap 28 = .ok (.aload_n 0, 1) := by decide +kernel
theorem dX9_swap_29 : decode cX9_swap 29 = .ok (.getfield 18, 3) := by decide +kernel
theorem dX9_swap_32 : decode cX9_swap 32 = .ok (.iload_n 1, 1) := by decide +kernel
theorem dX9_swap_33 : decode cX9_swap 33 = .ok (.aload_n 0, 1) := by decide +kernel
theorem dX9_swap_34 : decode cX9_swap 34 = .ok (.getfield 18, 3) := by decide +kernel
theorem dX9_swap_37 : decode cX9_swap 37 = .ok (.iload_n 2, 1) := by decide +kernel
theorem dX9_swap_38 : decode cX9_swap 38 = .ok (.iaload, 1) := by decide +kernel
theorem dX9_swap_39 : decode cX9_swap 39 = .ok (.iastore, 1) := by decide +kernel
theorem dX9_swap_40 : decode cX9_swap 40 = .ok (.aload_n 0, 1) := by decide +kernel
theorem dX9_swap_41 : decode cX9_swap 41 = .ok (.getfield 18, 3) := by decide +kernel
theorem dX9_swap_44 : decode cX9_swap 44 = .ok (.iload_n 2, 1) := by decide +kernel
theorem dX9_swap_45 : decode cX9_swap 45 = .ok (.iload_n 3, 1) := by decide +kernel
theorem dX9_swap_46 : decode cX9_swap 46 = .ok (.iastore, 1) := by decide +kernel
theorem dX9_swap_47 : decode cX9_swap 47 = .ok (.return_, 1) := by decide +kernel
set_option maxRecDepth 20000 in
theorem ggX10_init_X3_init : GoodIn wsX10_init wsX3_init := goodIn_r _ [33, 34, 2, 3, 35, 36, 37, 38, 39, 40, 41, 42, 149, 150, 151, 152, 153, 154, 155] (by decide +kernel) (by decide +kernel)
set_option maxRecDepth 20000 in
theorem gX10_init_X3_init_n9 : GoodIn wsX10_init (wsX3_init) := ggX10_init_X3_init
set_option maxRecDepth 20000 in
theorem ggX10_init_X8_init : GoodIn wsX10_init wsX8_init := goodIn_r _ [44, 45, 2, 3, 46, 47, 48, 49, 50, 51, 52, 53, 54, 5, 6, 55, 32, 33, 34, 35, 36, 37, 38, 39, 40, 41, 42, 166, 167, 168, 169, 170, 171, 172, 173, 149, 150, 151, 152, 153, 154, 155] (by decide +kernel) (by decide +kernel)
set_option maxRecDepth 20000 in
theorem gX10_init_X8_init_n18 : GoodIn wsX10_init (wsX8_init) := ggX10_init_X8_init
set_option maxRecDepth 20000 in
theorem ggX10_init_X4_init : GoodIn wsX10_init wsX4_init := goodIn_r _ [57, 58, 2, 3, 59, 60, 61, 62, 63, 64, 65, 66, 67, 68, 69, 70, 71, 72, 73, 74, 75, 76, 77, 78, 79, 35, 80, 81, 82, 83, 84, 85, 86, 87, 88, 89, 90, 91, 92, 93, 94, 95, 96, 97, 98, 99, 100, 101, 102, 103, 198, 199, 200, 201, 202, 203, 204, 205, 174, 175, 176, 177, 178, 206, 207, 208, 209, 210, 211, 212, 213] (by decide +kernel) (by decide +kernel)
set_option maxRecDepth 20000 in
theorem gX10_init_X4_init_n25 : GoodIn wsX10_init (wsX4_init) := ggX10_init_X4_init
set_option maxRecDepth 20000 in
theorem ggX10_init_X7_init : GoodIn wsX10_init wsX7_init := goodIn_r _ [105, 106, 2, 3, 35, 107, 108, 109, 110, 111, 179, 180, 181, 182] (by decide +kernel) (by decide +kernel)
set_option maxRecDepth 20000 in
theorem gX10_init_X7_init_n38 : GoodIn wsX10_init (wsX7_init) := ggX10_init_X7_init
set_option maxRecDepth 20000 in
theorem ggX10_init_X9_init : GoodIn wsX10_init wsX9_init := goodIn_r _ [113, 114, 2, 3, 35, 115, 116, 117, 118, 119, 120, 121, 122, 123, 124, 125, 126, 183, 184, 185, 186, 187, 188, 189, 190, 191, 192, 193, 194] (by decide +kernel) (by decide +kernel)
set_option maxRecDepth 20000 in
theorem gX10_init_X9_init_n45 : GoodIn wsX10_init (wsX9_init) := ggX10_init_X9_init
set_option maxRecDepth 20000 in
theorem ggX10_init_X5_init : GoodIn wsX10_init wsX5_init := goodIn_r _ [128, 129, 2, 3, 35, 130, 131, 132, 133, 195, 196, 197] (by decide +kernel) (by decide +kernel)
set_option maxRecDepth 20000 in
theorem gX10_init_X5_init_n52 : GoodIn wsX10_init (wsX5_init) := ggX10_init_X5_init
set_option maxRecDepth 20000 in
theorem ggX10_init_X3_clear : GoodIn wsX10_init wsX3_clear := goodIn_r _ [137, 40, 41, 42, 138, 139, 140, 6, 141, 39, 142, 143, 144, 145, 38, 146, 147, 148, 149, 150, 151, 152, 153, 154, 155] (by decide +kernel) (by decide +kernel)
set_option maxRecDepth 20000 in
theorem gX10_init_X3_clear : GoodIn wsX10_init (wsV RX10 64 RX3 yX3_clear wsX3_clear) := goodIn_app (goodIn_of _ (by decide +kernel)) ggX10_init_X3_clear
theorem dX10_init_0 : decode cX10_init 0 = .ok (.aload_n 0, 1) := by decide +kernel
theorem dX10_init_1 : decode cX10_init 1 = .ok (.invokespecial 1, 3) := by decide +kernel
theorem dX10_init_4 : decode cX10_init 4 = .ok (.aload_n 0, 1) := by decide +kernel
theorem dX10_init_5 : decode cX10_init 5 = .ok (.new 7, 3) := by decide +kernel
theorem dX10_init_8 : decode cX10_init 8 = .ok (.dup, 1) := by decide +kernel
theorem dX10_init_9 : decode cX10_init 9 = .ok (.invokespecial 9, 3) := by decide +kernel
theorem dX10_init_12 : decode cX10_init 12 = .ok (.putfield 10, 3) := by decide +kernel
theorem dX10_init_15 : decode cX10_init 15 = .ok (.aload_n 0, 1) := by decide +kernel
theorem dX10_init_16 : decode cX10_init 16 = .ok (.new 16, 3) := by decide +kernel
theorem dX10_init_19 : decode cX10_init 19 = .ok (.dup, 1) := by decide +kernel
theorem dX10_init_20 : decode cX10_init 20 = .ok (.invokespecial 18, 3) := by decide +kernel
theorem dX10_init_23 : decode cX10_init 23 = .ok (.putfield 19, 3) := by decide +kernel
theorem dX10_init_26 : decode cX10_init 26 = .ok (.aload_n 0, 1) := by decide +kernel
theorem dX10_init_27 : decode cX10_init 27 = .ok (.new 23, 3) := by decide +kernel
theorem dX10_init_30 : decode cX10_init 30 = .ok (.dup, 1) := by decide +kernel
theorem dX10_init_31 : decode cX10_init 31 = .ok (.invokespecial 25, 3) := by decide +kernel
theorem dX10_init_34 : decode cX10_init 34 = .ok (.putfield 26, 3) := by decide +kernel
theorem dX10_init_37 : decode cX10_init 37 = .ok (.aload_n 0, 1) := by decide +kernel
theorem dX10_init_38 : decode cX10_init 38 = .ok (.new 23, 3) := by decide +kernel
theorem dX10_init_41 : decode cX10_init 41 = .ok (.dup, 1) := by decide +kernel
theorem dX10_init_42 : decode cX10_init 42 = .ok (.invokespecial 25, 3) := by decide +kernel
theorem dX10_init_45 : decode cX10_init 45 = .ok (.putfield 30, 3) := by decide +kernel
theorem dX10_init_48 : decode cX10_init 48 = .ok (.aload_n 0, 1) := by decide +kernel
theorem dX10_init_49 : decode cX10_init 49 = .ok (.new 23, 3) := by decide +kernel
theorem dX10_init_52 : decode cX10_init 52 = .ok (.dup, 1) := by decide +kernel
theorem dX10_init_53 : decode cX10_init 53 = .ok (.invokespecial 25, 3) := by decide +kernel
theorem dX10_init_56 : decode cX10_init 56 = .ok (.putfield 33, 3) := by decide +kernel
theorem dX10_init_59 : decode cX10_init 59 = .ok (.aload_n 0, 1) := by decide +kernel
theorem dX10_init_60 : decode cX10_init 60 = .ok (.new 36, 3) := by decide +kernel
theorem dX10_init_63 : decode cX10_init 63 = .ok (.dup, 1) := by decide +kernel
theorem dX10_init_64 : decode cX10_init 64 = .ok (.invokespecial 38, 3) := by decide +kernel
theorem dX10_init_67 : decode cX10_init 67 = .ok (.putfield 39, 3) := by decide +kernel
theorem dX10_init_70 : decode cX10_init 70 = .ok (.aload_n 0, 1) := by decide +kernel
theorem dX10_init_71 : decode cX10_init 71 = .ok (.new 43, 3) := by decide +kernel
theorem dX10_init_74 : decode cX10_init 74 = .ok (.dup, 1) := by decide +kernel
theorem dX10_init_75 : decode cX10_init 75 = .ok (.invokespecial 45, 3) := by decide +kernel
theorem dX10_init_78 : decode cX10_init 78 = .ok (.putfield 46, 3) := by decide +kernel
theorem dX10_init_81 : decode cX10_init 81 = .ok (.aload_n 0, 1) := by decide +kernel
theorem dX10_init_82 : decode cX10_init 82 = .ok (.new 50, 3) := by decide +kernel
theorem dX10_init_85 : decode cX10_init 85 = .ok (.dup, 1) := by decide +kernel
theorem dX10_init_86 : decode cX10_init 86 = .ok (.invokespecial 52, 3) := by decide +kernel
theorem dX10_init_89 : decode cX10_init 89 = .ok (.putfield 53, 3) := by decide +kernel
theorem dX10_init_92 : decode cX10_init 92 = .ok (.aload_n 0, 1) := by decide +kernel
theorem dX10_init_93 : decode cX10_init 93 = .ok (.iconst (-1), 1) := by decide +kernel
theorem dX10_init_94 : decode cX10_init 94 = .ok (.putfield 57, 3) := by decide +kernel
theorem dX10_init_97 : decode cX10_init 97 = .ok (.aload_n 0, 1) := by decide +kernel
theorem dX10_init_98 : decode cX10_init 98 = .ok (.iconst 0, 1) := by decide +kernel
theorem dX10_init_99 : decode cX10_init 99 = .ok (.putfield 61, 3) := by decide +kernel
theorem dX10_init_102 : decode cX10_init 102 = .ok (.aload_n 0, 1) := by decide +kernel
theorem dX10_init_103 : decode cX10_init 103 = .ok (.getfield 10, 3) := by decide +kernel
theorem dX10_init_106 : decode cX10_init 106 = .ok (.invokevirtual 64, 3) := by decide +kernel
theorem dX10_init_109 : decode cX10_init 109 = .ok (.return_, 1) := by decide +kernel
set_option maxRecDepth 20000 in
theorem ggX10_feed_X10_within : GoodIn wsX10_feed wsX10_within := goodIn_r _ [6] (by decide +kernel) (by decide +kernel)
set_option maxRecDepth 20000 in
theorem gX10_feed_X10_within : GoodIn wsX10_feed (va_wsS RX10 67 yX10_within wsX10_within) := goodIn_app (goodIn_of _ (by decide +kernel)) ggX10_feed_X10_within
set_option maxRecDepth 20000 in
theorem ggX10_feed_X8_append : GoodIn wsX10_feed wsX8_append := goodIn_r _ [11, 12, 13, 24, 25, 26, 27, 28, 29, 30, 31] (by decide +kernel) (by decide +kernel)
set_option maxRecDepth 20000 in
theorem gX10_feed_X8_append : GoodIn wsX10_feed (wsV RX10 74 RX8 yX8_append wsX8_append) := goodIn_app (goodIn_of _ (by decide +kernel)) ggX10_feed_X8_append
theorem dX10_feed_0 : decode cX10_feed 0 = .ok (.iload_n 1, 1) := by decide +kernel
theorem dX10_feed_1 : decode cX10_feed 1 = .ok (.iconst 1, 1) := by decide +kernel
theorem dX10_feed_2 : decode cX10_feed 2 = .ok (.bipush 8, 2) := by decide +kernel
theorem dX10_feed_4 : decode cX10_feed 4 = .ok (.invokestatic 67, 3) := by decide +kernel
theorem dX10_feed_7 : decode cX10_feed 7 = .ok (.ifCond .ne 7, 3) := by decide +kernel
theorem dX10_feed_10 : decode cX10_feed 10 = .ok (.sipush (-1002), 3) := by decide +kernel
theorem dX10_feed_13 : decode cX10_feed 13 = .ok (.ireturn, 1) := by decide +kernel
theorem dX10_feed_14 : decode cX10_feed 14 = .ok (.aload_n 0, 1) := by decide +kernel
theorem dX10_feed_15 : decode cX10_feed 15 = .ok (.getfield 19, 3) := by decide +kernel
theorem dX10_feed_18 : decode cX10_feed 18 = .ok (.getfield 71, 3) := by decide +kernel
theorem dX10_feed_21 : decode cX10_feed 21 = .ok (.iload_n 1, 1) := by decide +kernel
theorem dX10_feed_22 : decode cX10_feed 22 = .ok (.iadd, 1) := by decide +kernel
theorem dX10_feed_23 : decode cX10_feed 23 = .ok (.sipush 240, 3) := by decide +kernel
theorem dX10_feed_26 : decode cX10_feed 26 = .ok (.if_icmp .le 7, 3) := by decide +kernel
theorem dX10_feed_29 : decode cX10_feed 29 = .ok (.sipush (-1004), 3) := by decide +kernel
theorem dX10_feed_32 : decode cX10_feed 32 = .ok (.ireturn, 1) := by decide +kernel
theorem dX10_feed_33 : decode cX10_feed 33 = .ok (.aload_n 0, 1) := by decide +kernel
theorem dX10_feed_34 : decode cX10_feed 34 = .ok (.getfield 19, 3) := by decide +kernel
theorem dX10_feed_37 : decode cX10_feed 37 = .ok (.iload_n 1, 1) := by decide +kernel
theorem dX10_feed_38 : decode cX10_feed 38 = .ok (.lload_n 2, 1) := by decide +kernel
theorem dX10_feed_39 : decode cX10_feed 39 = .ok (.invokevirtual 74, 3) := by decide +kernel
theorem dX10_feed_42 : decode cX10_feed 42 = .ok (.ireturn, 1) := by decide +kernel
set_option maxRecDepth 20000 in
theorem ggX10_hall_X8_read : GoodIn wsX10_hall wsX8_read := goodIn_r _ [14, 15, 16, 17, 18, 19, 20, 21, 22, 23, 24, 25, 26, 27, 28, 29, 30, 31, 32, 33, 34, 35, 36, 37, 38, 39, 40, 41, 42, 43, 44, 13, 45, 46, 47, 48, 49, 50, 51, 52, 53, 54, 55, 56, 57, 58, 59, 60, 61, 62, 63, 64, 65, 66, 67, 68, 69, 70, 71, 72, 73, 74, 75, 76, 77, 78, 79, 80, 81, 82, 83, 84, 85, 86, 87, 88, 89, 90, 91, 92, 93, 94, 95, 96, 97, 98, 99, 100, 101, 102, 103, 104, 105, 106, 107, 108, 109, 110, 111, 112, 113, 114, 115, 116, 117, 118, 119, 120, 121, 122, 123, 124, 125, 126, 127, 128, 129, 130, 131, 132, 133, 134, 135, 136, 137, 138, 139, 140, 141, 142, 143, 144, 145, 146, 147, 148, 149, 150, 151, 152, 153, 154, 155, 184, 185, 186, 187, 188, 189, 190, 191, 177, 178, 179, 180, 181, 182, 183] (by decide +kernel) (by decide +kernel)
set_option maxRecDepth 20000 in
theorem gX10_hall_X8_read : GoodIn wsX10_hall (wsV RX10 87 RX8 yX8_read wsX8_read) := goodIn_app (goodIn_of _ (by decide +kernel)) ggX10_hall_X8_read
set_option maxRecDepth 20000 in
theorem ggX10_hall_X8_changeDraft : GoodIn wsX10_hall wsX8_changeDraft := goodIn_r _ [159, 15, 184, 185, 186, 187, 188, 189, 190, 191] (by decide +kernel) (by decide +kernel)
set_option maxRecDepth 20000 in
theorem gX10_hall_X8_changeDraft : GoodIn wsX10_hall (wsV RX10 91 RX8 yX8_changeDraft wsX8_changeDraft) := goodIn_app (goodIn_of _ (by decide +kernel)) ggX10_hall_X8_changeDraft
theorem dX10_hall_0 : decode cX10_hall 0 = .ok (.aload_n 0, 1) := by decide +kernel
theorem dX10_hall_1 : decode cX10_hall 1 = .ok (.getfield 26, 3) := by decide +kernel
theorem dX10_hall_4 : decode cX10_hall 4 = .ok (.getfield 78, 3) := by decide +kernel
theorem dX10_hall_7 : decode cX10_hall 7 = .ok (.getfield 82, 3) := by decide +kernel
theorem dX10_hall_10 : decode cX10_hall 10 = .ok (.ifCond .le 7, 3) := by decide +kernel
theorem dX10_hall_13 : decode cX10_hall 13 = .ok (.sipush (-1003), 3) := by decide +kernel
theorem dX10_hall_16 : decode cX10_hall 16 = .ok (.ireturn, 1) := by decide +kernel
theorem dX10_hall_17 : decode cX10_hall 17 = .ok (.aload_n 0, 1) := by decide +kernel
theorem dX10_hall_18 : decode cX10_hall 18 = .ok (.getfield 19, 3) := by decide +kernel
theorem dX10_hall_21 : decode cX10_hall 21 = .ok (.invokevirtual 87, 3) := by decide +kernel
theorem dX10_hall_24 : decode cX10_hall 24 = .ok (.istore_n 1, 1) := by decide +kernel
theorem dX10_hall_25 : decode cX10_hall 25 = .ok (.iload_n 1, 1) := by decide +kernel
theorem dX10_hall_26 : decode cX10_hall 26 = .ok (.ifCond .eq 8, 3) := by decide +kernel
theorem dX10_hall_29 : decode cX10_hall 29 = .ok (.bipush (-10), 2) := by decide +kernel
theorem dX10_hall_31 : decode cX10_hall 31 = .ok (.iload_n 1, 1) := by decide +kernel
theorem dX10_hall_32 : decode cX10_hall 32 = .ok (.isub, 1) := by decide +kernel
theorem dX10_hall_33 : decode cX10_hall 33 = .ok (.ireturn, 1) := by decide +kernel
theorem dX10_hall_34 : decode cX10_hall 34 = .ok (.aload_n 0, 1) := by decide +kernel
theorem dX10_hall_35 : decode cX10_hall 35 = .ok (.aload_n 0, 1) := by decide +kernel
theorem dX10_hall_36 : decode cX10_hall 36 = .ok (.getfield 19, 3) := by decide +kernel
theorem dX10_hall_39 : decode cX10_hall 39 = .ok (.aload_n 0, 1) := by decide +kernel
theorem dX10_hall_40 : decode cX10_hall 40 = .ok (.getfield 10, 3) := by decide +kernel
theorem dX10_hall_43 : decode cX10_hall 43 = .ok (.invokevirtual 91, 3) := by decide +kernel
theorem dX10_hall_46 : decode cX10_hall 46 = .ok (.putfield 10, 3) := by decide +kernel
theorem dX10_hall_49 : decode cX10_hall 49 = .ok (.aload_n 0, 1) := by decide +kernel
theorem dX10_hall_50 : decode cX10_hall 50 = .ok (.getfield 30, 3) := by decide +kernel
theorem dX10_hall_53 : decode cX10_hall 53 = .ok (.iconst 0, 1) := by decide +kernel
theorem dX10_hall_54 : decode cX10_hall 54 = .ok (.putfield 95, 3) := by decide +kernel
theorem dX10_hall_57 : decode cX10_hall 57 = .ok (.aload_n 0, 1) := by decide +kernel
theorem dX10_hall_58 : decode cX10_hall 58 = .ok (.getfield 33, 3) := by decide +kernel
theorem dX10_hall_61 : decode cX10_hall 61 = .ok (.iconst 0, 1) := by decide +kernel
theorem dX10_hall_62 : decode cX10_hall 62 = .ok (.putfield 95, 3) := by decide +kernel
theorem dX10_hall_65 : decode cX10_hall 65 = .ok (.aload_n 0, 1) := by decide +kernel
theorem dX10_hall_66 : decode cX10_hall 66 = .ok (.getfield 10, 3) := by decide +kernel
theorem dX10_hall_69 : decode cX10_hall 69 = .ok (.getfield 99, 3) := by decide +kernel
theorem dX10_hall_72 : decode cX10_hall 72 = .ok (.ireturn, 1) := by decide +kernel
theorem dX10_fault_0 : decode cX10_fault 0 = .ok (.aload_n 0, 1) := by decide +kernel
theorem dX10_fault_1 : decode cX10_fault 1 = .ok (.getfield 19, 3) := by decide +kernel
theorem dX10_fault_4 : decode cX10_fault 4 = .ok (.getfield 102, 3) := by decide +kernel
theorem dX10_fault_7 : decode cX10_fault 7 = .ok (.ireturn, 1) := by decide +kernel
set_option maxRecDepth 20000 in
theorem ggX10_peg_X3_hasPeg : GoodIn wsX10_peg wsX3_hasPeg := goodIn_r _ [10, 11, 29, 30, 31, 32, 33, 34, 35] (by decide +kernel) (by decide +kernel)
set_option maxRecDepth 20000 in
theorem gX10_peg_X3_hasPeg : GoodIn wsX10_peg (wsV RX10 105 RX3 yX3_hasPeg wsX3_hasPeg) := goodIn_app (goodIn_of _ (by decide +kernel)) ggX10_peg_X3_hasPeg
set_option maxRecDepth 20000 in
theorem ggX10_peg_X2_ownerOn : GoodIn wsX10_peg wsX2_ownerOn := goodIn_r _ [16, 17, 18, 41, 42, 43, 44, 45, 46, 47, 48] (by decide +kernel) (by decide +kernel)
set_option maxRecDepth 20000 in
theorem gX10_peg_X2_ownerOn : GoodIn wsX10_peg (wsV RX10 120 RX2 yX2_ownerOn wsX2_ownerOn) := goodIn_app (goodIn_of _ (by decide +kernel)) ggX10_peg_X2_ownerOn
theorem dX10_peg_0 : decode cX10_peg 0 = .ok (.aload_n 0, 1) := by decide +kernel
theorem dX10_peg_1 : decode cX10_peg 1 = .ok (.getfield 10, 3) := by decide +kernel
theorem dX10_peg_4 : decode cX10_peg 4 = .ok (.iload_n 1, 1) := by decide +kernel
theorem dX10_peg_5 : decode cX10_peg 5 = .ok (.invokevirtual 105, 3) := by decide +kernel
theorem dX10_peg_8 : decode cX10_peg 8 = .ok (.ifCond .ne 7, 3) := by decide +kernel
theorem dX10_peg_11 : decode cX10_peg 11 = .ok (.sipush (-1001), 3) := by decide +kernel
theorem dX10_peg_14 : decode cX10_peg 14 = .ok (.ireturn, 1) := by decide +kernel
theorem dX10_peg_15 : decode cX10_peg 15 = .ok (.iload_n 2, 1) := by decide +kernel
theorem dX10_peg_16 : decode cX10_peg 16 = .ok (.tableswitch 60 0 2 #[28, 38, 48], 28) := by decide +kernel
theorem dX10_peg_44 : decode cX10_peg 44 = .ok (.aload_n 0, 1) := by decide +kernel
theorem dX10_peg_45 : decode cX10_peg 45 = .ok (.getfield 10, 3) := by decide +kernel
theorem dX10_peg_48 : decode cX10_peg 48 = .ok (.getfield 109, 3) := by decide +kernel
theorem dX10_peg_51 : decode cX10_peg 51 = .ok (.iload_n 1, 1) := by decide +kernel
theorem dX10_peg_52 : decode cX10_peg 52 = .ok (.iaload, 1) := by decide +kernel
theorem dX10_peg_53 : decode cX10_peg 53 = .ok (.ireturn, 1) := by decide +kernel
theorem dX10_peg_54 : decode cX10_peg 54 = .ok (.aload_n 0, 1) := by decide +kernel
theorem dX10_peg_55 : decode cX10_peg 55 = .ok (.getfield 10, 3) := by decide +kernel
theorem dX10_peg_58 : decode cX10_peg 58 = .ok (.getfield 113, 3) := by decide +kernel
theorem dX10_peg_61 : decode cX10_peg 61 = .ok (.iload_n 1, 1) := by decide +kernel
theorem dX10_peg_62 : decode cX10_peg 62 = .ok (.iaload, 1) := by decide +kernel
theorem dX10_peg_63 : decode cX10_peg 63 = .ok (.ireturn, 1) := by decide +kernel
theorem dX10_peg_64 : decode cX10_peg 64 = .ok (.aload_n 0, 1) := by decide +kernel
theorem dX10_peg_65 : decode cX10_peg 65 = .ok (.getfield 26, 3) := by decide +kernel
theorem dX10_peg_68 : decode cX10_peg 68 = .ok (.getfield 116, 3) := by decide +kernel
theorem dX10_peg_71 : decode cX10_peg 71 = .ok (.iload_n 1, 1) := by decide +kernel
theorem dX10_peg_72 : decode cX10_peg 72 = .ok (.invokevirtual 120, 3) := by decide +kernel
theorem dX10_peg_75 : decode cX10_peg 75 = .ok (.ireturn, 1) := by decide +kernel
theorem dX10_peg_76 : decode cX10_peg 76 = .ok (.sipush (-1002), 3) := by decide +kernel
theorem dX10_peg_79 : decode cX10_peg 79 = .ok (.ireturn, 1) := by decide +kernel
set_option maxRecDepth 20000 in
theorem ggX10_odds_X10_within : GoodIn wsX10_odds wsX10_within := goodIn_r _ [5] (by decide +kernel) (by decide +kernel)
set_option maxRecDepth 20000 in
theorem gX10_odds_X10_within : GoodIn wsX10_odds (va_wsS RX10 67 yX10_within wsX10_within) := goodIn_app (goodIn_of _ (by decide +kernel)) ggX10_odds_X10_within
set_option maxRecDepth 20000 in
theorem ggX10_odds_X3_shareOf : GoodIn wsX10_odds wsX3_shareOf := goodIn_r _ [10, 11, 3, 4, 5, 22, 23, 24, 25, 26, 27, 28] (by decide +kernel) (by decide +kernel)
set_option maxRecDepth 20000 in
theorem gX10_odds_X3_shareOf : GoodIn wsX10_odds (wsV RX10 126 RX3 yX3_shareOf wsX3_shareOf) := goodIn_app (goodIn_of _ (by decide +kernel)) ggX10_odds_X3_shareOf
theorem dX10_odds_0 : decode cX10_odds 0 = .ok (.iload_n 1, 1) := by decide +kernel
theorem dX10_odds_1 : decode cX10_odds 1 = .ok (.iconst 0, 1) := by decide +kernel
theorem dX10_odds_2 : decode cX10_odds 2 = .ok (.iconst 3, 1) := by decide +kernel
theorem dX10_odds_3 : decode cX10_odds 3 = .ok (.invokestatic 67, 3) := by decide +kernel
theorem dX10_odds_6 : decode cX10_odds 6 = .ok (.ifCond .eq 12, 3) := by decide +kernel
theorem dX10_odds_9 : decode cX10_odds 9 = .ok (.iload_n 2, 1) := by decide +kernel
theorem dX10_odds_10 : decode cX10_odds 10 = .ok (.iconst 0, 1) := by decide +kernel
theorem dX10_odds_11 : decode cX10_odds 11 = .ok (.iconst 2, 1) := by decide +kernel
theorem dX10_odds_12 : decode cX10_odds 12 = .ok (.invokestatic 67, 3) := by decide +kernel
theorem dX10_odds_15 : decode cX10_odds 15 = .ok (.ifCond .ne 7, 3) := by decide +kernel
theorem dX10_odds_18 : decode cX10_odds 18 = .ok (.sipush (-1002), 3) := by decide +kernel
theorem dX10_odds_21 : decode cX10_odds 21 = .ok (.ireturn, 1) := by decide +kernel
theorem dX10_odds_22 : decode cX10_odds 22 = .ok (.aload_n 0, 1) := by decide +kernel
theorem dX10_odds_23 : decode cX10_odds 23 = .ok (.getfield 10, 3) := by decide +kernel
theorem dX10_odds_26 : decode cX10_odds 26 = .ok (.iload_n 1, 1) := by decide +kernel
theorem dX10_odds_27 : decode cX10_odds 27 = .ok (.iload_n 2, 1) := by decide +kernel
theorem dX10_odds_28 : decode cX10_odds 28 = .ok (.invokevirtual 126, 3) := by decide +kernel
theorem dX10_odds_31 : decode cX10_odds 31 = .ok (.ireturn, 1) := by decide +kernel
set_option maxRecDepth 20000 in
theorem ggX10_count_X3_weightOf : GoodIn wsX10_count wsX3_weightOf := goodIn_r _ [20, 21, 22, 23, 24, 35, 36, 37, 38, 39, 40, 41] (by decide +kernel) (by decide +kernel)
set_option maxRecDepth 20000 in
theorem gX10_count_X3_weightOf : GoodIn wsX10_count (wsV RX10 151 RX3 yX3_weightOf wsX3_weightOf) := goodIn_app (goodIn_of _ (by decide +kernel)) ggX10_count_X3_weightOf
theorem dX10_count_0 : decode cX10_count 0 = .ok (.iload_n 1, 1) := by decide +kernel
theorem dX10_count_1 : decode cX10_count 1 = .ok (.tableswitch 162 0 10 #[59, 67, 78, 89, 100, 111, 119, 127, 135, 144, 153], 59) := by decide +kernel
theorem dX10_count_60 : decode cX10_count 60 = .ok (.aload_n 0, 1) := by decide +kernel
theorem dX10_count_61 : decode cX10_count 61 = .ok (.getfield 10, 3) := by decide +kernel
theorem dX10_count_64 : decode cX10_count 64 = .ok (.getfield 99, 3) := by decide +kernel
theorem dX10_count_67 : decode cX10_count 67 = .ok (.ireturn, 1) := by decide +kernel
theorem dX10_count_68 : decode cX10_count 68 = .ok (.aload_n 0, 1) := by decide +kernel
theorem dX10_count_69 : decode cX10_count 69 = .ok (.getfield 26, 3) := by decide +kernel
theorem dX10_count_72 : decode cX10_count 72 = .ok (.getfield 116, 3) := by decide +kernel
theorem dX10_count_75 : decode cX10_count 75 = .ok (.getfield 130, 3) := by decide +kernel
theorem dX10_count_78 : decode cX10_count 78 = .ok (.ireturn, 1) := by decide +kernel
theorem dX10_count_79 : decode cX10_count 79 = .ok (.aload_n 0, 1) := by decide +kernel
theorem dX10_count_80 : decode cX10_count 80 = .ok (.getfield 26, 3) := by decide +kernel
theorem dX10_count_83 : decode cX10_count 83 = .ok (.getfield 78, 3) := by decide +kernel
theorem dX10_count_86 : decode cX10_count 86 = .ok (.getfield 82, 3) := by decide +kernel
theorem dX10_count_89 : decode cX10_count 89 = .ok (.ireturn, 1) := by decide +kernel
theorem dX10_count_90 : decode cX10_count 90 = .ok (.aload_n 0, 1) := by decide +kernel
theorem dX10_count_91 : decode cX10_count 91 = .ok (.getfield 26, 3) := by decide +kernel
theorem dX10_count_94 : decode cX10_count 94 = .ok (.getfield 131, 3) := by decide +kernel
theorem dX10_count_97 : decode cX10_count 97 = .ok (.getfield 135, 3) := by decide +kernel
theorem dX10_count_100 : decode cX10_count 100 = .ok (.ireturn, 1) := by decide +kernel
theorem dX10_count_101 : decode cX10_count 101 = .ok (.aload_n 0, 1) := by decide +kernel
theorem dX10_count_102 : decode cX10_count 102 = .ok (.getfield 26, 3) := by decide +kernel
theorem dX10_count_105 : decode cX10_count 105 = .ok (.getfield 138, 3) := by decide +kernel
theorem dX10_count_108 : decode cX10_count 108 = .ok (.getfield 142, 3) := by decide +kernel
theorem dX10_count_111 : decode cX10_count 111 = .ok (.ireturn, 1) := by decide +kernel
theorem dX10_count_112 : decode cX10_count 112 = .ok (.aload_n 0, 1) := by decide +kernel
theorem dX10_count_113 : decode cX10_count 113 = .ok (.getfield 19, 3) := by decide +kernel
theorem dX10_count_116 : decode cX10_count 116 = .ok (.getfield 71, 3) := by decide +kernel
theorem dX10_count_119 : decode cX10_count 119 = .ok (.ireturn, 1) := by decide +kernel
theorem dX10_count_120 : decode cX10_count 120 = .ok (.aload_n 0, 1) := by decide +kernel
theorem dX10_count_121 : decode cX10_count 121 = .ok (.getfield 10, 3) := by decide +kernel
theorem dX10_count_124 : decode cX10_count 124 = .ok (.getfield 145, 3) := by decide +kernel
theorem dX10_count_127 : decode cX10_count 127 = .ok (.ireturn, 1) := by decide +kernel
theorem dX10_count_128 : decode cX10_count 128 = .ok (.aload_n 0, 1) := by decide +kernel
theorem dX10_count_129 : decode cX10_count 129 = .ok (.getfield 10, 3) := by decide +kernel
theorem dX10_count_132 : decode cX10_count 132 = .ok (.getfield 148, 3) := by decide +kernel
theorem dX10_count_135 : decode cX10_count 135 = .ok (.ireturn, 1) := by decide +kernel
theorem dX10_count_136 : decode cX10_count 136 = .ok (.aload_n 0, 1) := by decide +kernel
theorem dX10_count_137 : decode cX10_count 137 = .ok (.getfield 10, 3) := by decide +kernel
theorem dX10_count_140 : decode cX10_count 140 = .ok (.iconst 0, 1) := by decide +kernel
theorem dX10_count_141 : decode cX10_count 141 = .ok (.invokevirtual 151, 3) := by decide +kernel
theorem dX10_count_144 : decode cX10_count 144 = .ok (.ireturn, 1) := by decide +kernel
theorem dX10_count_145 : decode cX10_count 145 = .ok (.aload_n 0, 1) := by decide +kernel
theorem dX10_count_146 : decode cX10_count 146 = .ok (.getfield 10, 3) := by decide +kernel
theorem dX10_count_149 : decode cX10_count 149 = .ok (.iconst 1, 1) := by decide +kernel
theorem dX10_count_150 : decode cX10_count 150 = .ok (.invokevirtual 151, 3) := by decide +kernel
theorem dX10_count_153 : decode cX10_count 153 = .ok (.ireturn, 1) := by decide +kernel
theorem dX10_count_154 : decode cX10_count 154 = .ok (.aload_n 0, 1) := by decide +kernel
theorem dX10_count_155 : decode cX10_count 155 = .ok (.getfield 10, 3) := by decide +kernel
theorem dX10_count_158 : decode cX10_count 158 = .ok (.iconst 2, 1) := by decide +kernel
theorem dX10_count_159 : decode cX10_count 159 = .ok (.invokevirtual 151, 3) := by decide +kernel
theorem dX10_count_162 : decode cX10_count 162 = .ok (.ireturn, 1) := by decide +kernel
theorem dX10_count_163 : decode cX10_count 163 = .ok (.sipush (-1002), 3) := by decide +kernel
theorem dX10_count_166 : decode cX10_count 166 = .ok (.ireturn, 1) := by decide +kernel
set_option maxRecDepth 20000 in
theorem ggX10_guest_X10_within : GoodIn wsX10_guest wsX10_within := goodIn_r _ [7] (by decide +kernel) (by decide +kernel)
set_option maxRecDepth 20000 in
theorem gX10_guest_X10_within : GoodIn wsX10_guest (va_wsS RX10 67 yX10_within wsX10_within) := goodIn_app (goodIn_of _ (by decide +kernel)) ggX10_guest_X10_within
set_option maxRecDepth 20000 in
theorem ggX10_guest_X2_add : GoodIn wsX10_guest wsX2_add := goodIn_r _ [12, 13, 14, 15, 16, 17, 18, 19, 20, 36, 37, 38, 39, 40, 41, 42, 43] (by decide +kernel) (by decide +kernel)
set_option maxRecDepth 20000 in
theorem gX10_guest_X2_add : GoodIn wsX10_guest (wsV RX10 154 RX2 yX2_add wsX2_add) := goodIn_app (goodIn_of _ (by decide +kernel)) ggX10_guest_X2_add
theorem dX10_guest_0 : decode cX10_guest 0 = .ok (.iload_n 1, 1) := by decide +kernel
theorem dX10_guest_1 : decode cX10_guest 1 = .ok (.iconst 0, 1) := by decide +kernel
theorem dX10_guest_2 : decode cX10_guest 2 = .ok (.iconst 3, 1) := by decide +kernel
theorem dX10_guest_3 : decode cX10_guest 3 = .ok (.invokestatic 67, 3) := by decide +kernel
theorem dX10_guest_6 : decode cX10_guest 6 = .ok (.ifCond .eq 12, 3) := by decide +kernel
theorem dX10_guest_9 : decode cX10_guest 9 = .ok (.iload_n 2, 1) := by decide +kernel
theorem dX10_guest_10 : decode cX10_guest 10 = .ok (.iconst 0, 1) := by decide +kernel
theorem dX10_guest_11 : decode cX10_guest 11 = .ok (.iconst 2, 1) := by decide +kernel
theorem dX10_guest_12 : decode cX10_guest 12 = .ok (.invokestatic 67, 3) := by decide +kernel
theorem dX10_guest_15 : decode cX10_guest 15 = .ok (.ifCond .ne 7, 3) := by decide +kernel
theorem dX10_guest_18 : decode cX10_guest 18 = .ok (.sipush (-1002), 3) := by decide +kernel
theorem dX10_guest_21 : decode cX10_guest 21 = .ok (.ireturn, 1) := by decide +kernel
theorem dX10_guest_22 : decode cX10_guest 22 = .ok (.iload_n 3, 1) := by decide +kernel
theorem dX10_guest_23 : decode cX10_guest 23 = .ok (.iconst 0, 1) := by decide +kernel
theorem dX10_guest_24 : decode cX10_guest 24 = .ok (.bipush 99, 2) := by decide +kernel
theorem dX10_guest_26 : decode cX10_guest 26 = .ok (.invokestatic 67, 3) := by decide +kernel
theorem dX10_guest_29 : decode cX10_guest 29 = .ok (.ifCond .eq 15, 3) := by decide +kernel
theorem dX10_guest_32 : decode cX10_guest 32 = .ok (.iload 4, 2) := by decide +kernel
theorem dX10_guest_34 : decode cX10_guest 34 = .ok (.iconst 0, 1) := by decide +kernel
theorem dX10_guest_35 : decode cX10_guest 35 = .ok (.sipush 255, 3) := by decide +kernel
theorem dX10_guest_38 : decode cX10_guest 38 = .ok (.invokestatic 67, 3) := by decide +kernel
theorem dX10_guest_41 : decode cX10_guest 41 = .ok (.ifCond .ne 7, 3) := by decide +kernel
theorem dX10_guest_44 : decode cX10_guest 44 = .ok (.sipush (-1002), 3) := by decide +kernel
theorem dX10_guest_47 : decode cX10_guest 47 = .ok (.ireturn, 1) := by decide +kernel
theorem dX10_guest_48 : decode cX10_guest 48 = .ok (.aload_n 0, 1) := by decide +kernel
theorem dX10_guest_49 : decode cX10_guest 49 = .ok (.getfield 26, 3) := by decide +kernel
theorem dX10_guest_52 : decode cX10_guest 52 = .ok (.getfield 116, 3) := by decide +kernel
theorem dX10_guest_55 : decode cX10_guest 55 = .ok (.getfield 130, 3) := by decide +kernel
theorem dX10_guest_58 : decode cX10_guest 58 = .ok (.bipush 16, 2) := by decide +kernel
theorem dX10_guest_60 : decode cX10_guest 60 = .ok (.if_icmp .lt 7, 3) := by decide +kernel
theorem dX10_guest_63 : decode cX10_guest 63 = .ok (.sipush (-1004), 3) := by decide +kernel
theorem dX10_guest_66 : decode cX10_guest 66 = .ok (.ireturn, 1) := by decide +kernel
theorem dX10_guest_67 : decode cX10_guest 67 = .ok (.aload_n 0, 1) := by decide +kernel
theorem dX10_guest_68 : decode cX10_guest 68 = .ok (.getfield 26, 3) := by decide +kernel
theorem dX10_guest_71 : decode cX10_guest 71 = .ok (.getfield 116, 3) := by decide +kernel
theorem dX10_guest_74 : decode cX10_guest 74 = .ok (.iload_n 1, 1) := by decide +kernel
theorem dX10_guest_75 : decode cX10_guest 75 = .ok (.iload_n 2, 1) := by decide +kernel
theorem dX10_guest_76 : decode cX10_guest 76 = .ok (.iload_n 3, 1) := by decide +kernel
theorem dX10_guest_77 : decode cX10_guest 77 = .ok (.iload 4, 2) := by decide +kernel
theorem dX10_guest_79 : decode cX10_guest 79 = .ok (.invokevirtual 154, 3) := by decide +kernel
theorem dX10_guest_82 : decode cX10_guest 82 = .ok (.ireturn, 1) := by decide +kernel
set_option maxRecDepth 20000 in
theorem ggX10_told_X2_knows : GoodIn wsX10_told wsX2_knows := goodIn_r _ [14, 15, 68, 69, 70, 71, 72, 73, 74, 75] (by decide +kernel) (by decide +kernel)
set_option maxRecDepth 20000 in
theorem gX10_told_X2_knows : GoodIn wsX10_told (wsV RX10 158 RX2 yX2_knows wsX2_knows) := goodIn_app (goodIn_of _ (by decide +kernel)) ggX10_told_X2_knows
set_option maxRecDepth 20000 in
theorem ggX10_told_X2_holderOf : GoodIn wsX10_told wsX2_holderOf := goodIn_r _ [19, 15, 20, 68, 69, 70, 71, 72, 73, 74, 75] (by decide +kernel) (by decide +kernel)
set_option maxRecDepth 20000 in
theorem gX10_told_X2_holderOf : GoodIn wsX10_told (wsV RX10 177 RX2 yX2_holderOf wsX2_holderOf) := goodIn_app (goodIn_of _ (by decide +kernel)) ggX10_told_X2_holderOf
set_option maxRecDepth 20000 in
theorem ggX10_told_X10_expectedOf : GoodIn wsX10_told wsX10_expectedOf := goodIn_r _ [25, 1, 2, 3, 26, 10, 11, 12, 13, 14, 15, 27, 28, 29, 24, 30, 31, 32, 33, 34, 35, 36, 37, 38, 39, 40, 41, 42, 43, 44, 45, 46, 47, 48, 49, 50, 51, 52, 53, 54, 55, 56, 57, 58, 59, 60, 61, 62, 63, 64, 65, 66, 67, 68, 69, 70, 71, 72, 73, 74, 75, 76, 77, 78, 79, 80, 81, 82, 83, 84] (by decide +kernel) (by decide +kernel)
set_option maxRecDepth 20000 in
theorem gX10_told_X10_expectedOf : GoodIn wsX10_told (wsV RX10 183 RX10 yX10_expectedOf wsX10_expectedOf) := goodIn_app (goodIn_of _ (by decide +kernel)) ggX10_told_X10_expectedOf
theorem dX10_told_0 : decode cX10_told 0 = .ok (.aload_n 0, 1) := by decide +kernel
theorem dX10_told_1 : decode cX10_told 1 = .ok (.getfield 26, 3) := by decide +kernel
theorem dX10_told_4 : decode cX10_told 4 = .ok (.getfield 116, 3) := by decide +kernel
theorem dX10_told_7 : decode cX10_told 7 = .ok (.astore_n 3, 1) := by decide +kernel
theorem dX10_told_8 : decode cX10_told 8 = .ok (.aload_n 3, 1) := by decide +kernel
theorem dX10_told_9 : decode cX10_told 9 = .ok (.iload_n 1, 1) := by decide +kernel
theorem dX10_told_10 : decode cX10_told 10 = .ok (.invokevirtual 158, 3) := by decide +kernel
theorem dX10_told_13 : decode cX10_told 13 = .ok (.ifCond .ne 7, 3) := by decide +kernel
theorem dX10_told_16 : decode cX10_told 16 = .ok (.sipush (-1001), 3) := by decide +kernel
theorem dX10_told_19 : decode cX10_told 19 = .ok (.ireturn, 1) := by decide +kernel
theorem dX10_told_20 : decode cX10_told 20 = .ok (.iload_n 2, 1) := by decide +kernel
theorem dX10_told_21 : decode cX10_told 21 = .ok (.tableswitch 112 0 8 #[51, 58, 65, 72, 79, 86, 93, 99, 106], 51) := by decide +kernel
theorem dX10_told_72 : decode cX10_told 72 = .ok (.aload_n 3, 1) := by decide +kernel
theorem dX10_told_73 : decode cX10_told 73 = .ok (.getfield 161, 3) := by decide +kernel
theorem dX10_told_76 : decode cX10_told 76 = .ok (.iload_n 1, 1) := by decide +kernel
theorem dX10_told_77 : decode cX10_told 77 = .ok (.iaload, 1) := by decide +kernel
theorem dX10_told_78 : decode cX10_told 78 = .ok (.ireturn, 1) := by decide +kernel
theorem dX10_told_79 : decode cX10_told 79 = .ok (.aload_n 3, 1) := by decide +kernel
theorem dX10_told_80 : decode cX10_told 80 = .ok (.getfield 164, 3) := by decide +kernel
theorem dX10_told_83 : decode cX10_told 83 = .ok (.iload_n 1, 1) := by decide +kernel
theorem dX10_told_84 : decode cX10_told 84 = .ok (.iaload, 1) := by decide +kernel
theorem dX10_told_85 : decode cX10_told 85 = .ok (.ireturn, 1) := by decide +kernel
theorem dX10_told_86 : decode cX10_told 86 = .ok (.aload_n 3, 1) := by decide +kernel
theorem dX10_told_87 : decode cX10_told 87 = .ok (.getfield 165, 3) := by decide +kernel
theorem dX10_told_90 : decode cX10_told 90 = .ok (.iload_n 1, 1) := by decide +kernel
theorem dX10_told_91 : decode cX10_told 91 = .ok (.iaload, 1) := by decide +kernel
theorem dX10_told_92 : decode cX10_told 92 = .ok (.ireturn, 1) := by decide +kernel
theorem dX10_told_93 : decode cX10_told 93 = .ok (.aload_n 3, 1) := by decide +kernel
theorem dX10_told_94 : decode cX10_told 94 = .ok (.getfield 168, 3) := by decide +kernel
theorem dX10_told_97 : decode cX10_told 97 = .ok (.iload_n 1, 1) := by decide +kernel
theorem dX10_told_98 : decode cX10_told 98 = .ok (.iaload, 1) := by decide +kernel
theorem dX10_told_99 : decode cX10_told 99 = .ok (.ireturn, 1) := by decide +kernel
theorem dX10_told_100 : decode cX10_told 100 = .ok (.aload_n 3, 1) := by decide +kernel
theorem dX10_told_101 : decode cX10_told 101 = .ok (.getfield 171, 3) := by decide +kernel
theorem dX10_told_104 : decode cX10_told 104 = .ok (.iload_n 1, 1) := by decide +kernel
theorem dX10_told_105 : decode cX10_told 105 = .ok (.iaload, 1) := by decide +kernel
theorem dX10_told_106 : decode cX10_told 106 = .ok (.ireturn, 1) := by decide +kernel
theorem dX10_told_107 : decode cX10_told 107 = .ok (.aload_n 3, 1) := by decide +kernel
theorem dX10_told_108 : decode cX10_told 108 = .ok (.getfield 174, 3) := by decide +kernel
theorem dX10_told_111 : decode cX10_told 111 = .ok (.iload_n 1, 1) := by decide +kernel
theorem dX10_told_112 : decode cX10_told 112 = .ok (.iaload, 1) := by decide +kernel
theorem dX10_told_113 : decode cX10_told 113 = .ok (.ireturn, 1) := by decide +kernel
theorem dX10_told_114 : decode cX10_told 114 = .ok (.aload_n 3, 1) := by decide +kernel
theorem dX10_told_115 : decode cX10_told 115 = .ok (.iload_n 1, 1) := by decide +kernel
theorem dX10_told_116 : decode cX10_told 116 = .ok (.invokevirtual 177, 3) := by decide +kernel
theorem dX10_told_119 : decode cX10_told 119 = .ok (.ireturn, 1) := by decide +kernel
theorem dX10_told_120 : decode cX10_told 120 = .ok (.aload_n 3, 1) := by decide +kernel
theorem dX10_told_121 : decode cX10_told 121 = .ok (.getfield 180, 3) := by decide +kernel
theorem dX10_told_124 : decode cX10_told 124 = .ok (.iload_n 1, 1) := by decide +kernel
theorem dX10_told_125 : decode cX10_told 125 = .ok (.iaload, 1) := by decide +kernel
theorem dX10_told_126 : decode cX10_told 126 = .ok (.ireturn, 1) := by decide +kernel
theorem dX10_told_127 : decode cX10_told 127 = .ok (.aload_n 0, 1) := by decide +kernel
theorem dX10_told_128 : decode cX10_told 128 = .ok (.iload_n 1, 1) := by decide +kernel
theorem dX10_told_129 : decode cX10_told 129 = .ok (.invokevirtual 183, 3) := by decide +kernel
theorem dX10_told_132 : decode cX10_told 132 = .ok (.ireturn, 1) := by decide +kernel
theorem dX10_told_133 : decode cX10_told 133 = .ok (.sipush (-1002), 3) := by decide +kernel
theorem dX10_told_136 : decode cX10_told 136 = .ok (.ireturn, 1) := by decide +kernel
set_option maxRecDepth 20000 in
theorem ggX10_plan_X2_knows : GoodIn wsX10_plan wsX2_knows := goodIn_r _ [12, 13, 108, 109, 110, 111, 112, 113, 114, 115] (by decide +kernel) (by decide +kernel)
set_option maxRecDepth 20000 in
theorem gX10_plan_X2_knows : GoodIn wsX10_plan (wsV RX10 158 RX2 yX2_knows wsX2_knows) := goodIn_app (goodIn_of _ (by decide +kernel)) ggX10_plan_X2_knows
set_option maxRecDepth 20000 in
theorem ggX10_plan_X10_expectedOf : GoodIn wsX10_plan wsX10_expectedOf := goodIn_r _ [18, 1, 2, 19, 6, 8, 9, 10, 11, 12, 13, 20, 21, 22, 17, 23, 24, 25, 26, 27, 28, 29, 30, 31, 32, 33, 34, 35, 36, 37, 38, 39, 40, 41, 42, 43, 44, 45, 93, 94, 95, 96, 97, 98, 99, 100, 101, 102, 103, 104, 105, 106, 107, 108, 109, 110, 111, 112, 113, 114, 115, 120, 121, 122, 123, 124, 125, 126, 127, 128] (by decide +kernel) (by decide +kernel)
set_option maxRecDepth 20000 in
theorem gX10_plan_X10_expectedOf : GoodIn wsX10_plan (wsV RX10 183 RX10 yX10_expectedOf wsX10_expectedOf) := goodIn_app (goodIn_of _ (by decide +kernel)) ggX10_plan_X10_expectedOf
set_option maxRecDepth 20000 in
theorem ggX10_plan_X7_make : GoodIn wsX10_plan wsX7_make := goodIn_r _ [50, 51, 52, 53, 54, 55, 56, 57, 58, 49, 59, 60, 61, 62, 11, 63, 64, 65, 9, 10, 12, 13, 66, 67, 68, 69, 70, 71, 72, 73, 74, 30, 75, 76, 77, 78, 79, 80, 81, 82, 83, 84, 85, 86, 87, 88, 116, 117, 118, 119, 108, 109, 110, 111, 112, 113, 114, 115, 120, 121, 122, 123, 124, 125, 126] (by decide +kernel) (by decide +kernel)
set_option maxRecDepth 20000 in
theorem gX10_plan_X7_make : GoodIn wsX10_plan (wsV RX10 189 RX7 yX7_make wsX7_make) := goodIn_app (goodIn_of _ (by decide +kernel)) ggX10_plan_X7_make
set_option maxRecDepth 20000 in
theorem ggX10_plan_X7_pegOf : GoodIn wsX10_plan wsX7_pegOf := goodIn_r _ [92, 53, 33, 17, 34, 116, 117, 118, 119] (by decide +kernel) (by decide +kernel)
set_option maxRecDepth 20000 in
theorem gX10_plan_X7_pegOf : GoodIn wsX10_plan (wsV RX10 196 RX7 yX7_pegOf wsX7_pegOf) := goodIn_app (goodIn_of _ (by decide +kernel)) ggX10_plan_X7_pegOf
theorem dX10_plan_0 : decode cX10_plan 0 = .ok (.iload_n 2, 1) := by decide +kernel
theorem dX10_plan_1 : decode cX10_plan 1 = .ok (.iconst (-1), 1) := by decide +kernel
theorem dX10_plan_2 : decode cX10_plan 2 = .ok (.if_icmp .eq 21, 3) := by decide +kernel
theorem dX10_plan_5 : decode cX10_plan 5 = .ok (.aload_n 0, 1) := by decide +kernel
theorem dX10_plan_6 : decode cX10_plan 6 = .ok (.getfield 26, 3) := by decide +kernel
theorem dX10_plan_9 : decode cX10_plan 9 = .ok (.getfield 116, 3) := by decide +kernel
theorem dX10_plan_12 : decode cX10_plan 12 = .ok (.iload_n 2, 1) := by decide +kernel
theorem dX10_plan_13 : decode cX10_plan 13 = .ok (.invokevirtual 158, 3) := by decide +kernel
theorem dX10_plan_16 : decode cX10_plan 16 = .ok (.ifCond .ne 7, 3) := by decide +kernel
theorem dX10_plan_19 : decode cX10_plan 19 = .ok (.sipush (-1001), 3) := by decide +kernel
theorem dX10_plan_22 : decode cX10_plan 22 = .ok (.ireturn, 1) := by decide +kernel
theorem dX10_plan_23 : decode cX10_plan 23 = .ok (.iconst 0, 1) := by decide +kernel
theorem dX10_plan_24 : decode cX10_plan 24 = .ok (.istore_n 3, 1) := by decide +kernel
theorem dX10_plan_25 : decode cX10_plan 25 = .ok (.iload_n 3, 1) := by decide +kernel
theorem dX10_plan_26 : decode cX10_plan 26 = .ok (.aload_n 0, 1) := by decide +kernel
theorem dX10_plan_27 : decode cX10_plan 27 = .ok (.getfield 26, 3) := by decide +kernel
theorem dX10_plan_30 : decode cX10_plan 30 = .ok (.getfield 116, 3) := by decide +kernel
theorem dX10_plan_33 : decode cX10_plan 33 = .ok (.getfield 130, 3) := by decide +kernel
theorem dX10_plan_36 : decode cX10_plan 36 = .ok (.if_icmp .ge 23, 3) := by decide +kernel
theorem dX10_plan_39 : decode cX10_plan 39 = .ok (.aload_n 0, 1) := by decide +kernel
theorem dX10_plan_40 : decode cX10_plan 40 = .ok (.getfield 39, 3) := by decide +kernel
theorem dX10_plan_43 : decode cX10_plan 43 = .ok (.getfield 186, 3) := by decide +kernel
theorem dX10_plan_46 : decode cX10_plan 46 = .ok (.iload_n 3, 1) := by decide +kernel
theorem dX10_plan_47 : decode cX10_plan 47 = .ok (.aload_n 0, 1) := by decide +kernel
theorem dX10_plan_48 : decode cX10_plan 48 = .ok (.iload_n 3, 1) := by decide +kernel
theorem dX10_plan_49 : decode cX10_plan 49 = .ok (.invokevirtual 183, 3) := by decide +kernel
theorem dX10_plan_52 : decode cX10_plan 52 = .ok (.iastore, 1) := by decide +kernel
theorem dX10_plan_53 : decode cX10_plan 53 = .ok (.iinc 3 1, 3) := by decide +kernel
theorem dX10_plan_56 : decode cX10_plan 56 = .ok (.goto (-31), 3) := by decide +kernel
theorem dX10_plan_59 : decode cX10_plan 59 = .ok (.aload_n 0, 1) := by decide +kernel
theorem dX10_plan_60 : decode cX10_plan 60 = .ok (.getfield 39, 3) := by decide +kernel
theorem dX10_plan_63 : decode cX10_plan 63 = .ok (.iload_n 1, 1) := by decide +kernel
theorem dX10_plan_64 : decode cX10_plan 64 = .ok (.aload_n 0, 1) := by decide +kernel
theorem dX10_plan_65 : decode cX10_plan 65 = .ok (.getfield 26, 3) := by decide +kernel
theorem dX10_plan_68 : decode cX10_plan 68 = .ok (.getfield 116, 3) := by decide +kernel
theorem dX10_plan_71 : decode cX10_plan 71 = .ok (.aload_n 0, 1) := by decide +kernel
theorem dX10_plan_72 : decode cX10_plan 72 = .ok (.getfield 10, 3) := by decide +kernel
theorem dX10_plan_75 : decode cX10_plan 75 = .ok (.invokevirtual 189, 3) := by decide +kernel
theorem dX10_plan_78 : decode cX10_plan 78 = .ok (.ifCond .ne 5, 3) := by decide +kernel
theorem dX10_plan_81 : decode cX10_plan 81 = .ok (.iconst (-1), 1) := by decide +kernel
theorem dX10_plan_82 : decode cX10_plan 82 = .ok (.ireturn, 1) := by decide +kernel
theorem dX10_plan_83 : decode cX10_plan 83 = .ok (.iload_n 2, 1) := by decide +kernel
theorem dX10_plan_84 : decode cX10_plan 84 = .ok (.iconst (-1), 1) := by decide +kernel
theorem dX10_plan_85 : decode cX10_plan 85 = .ok (.if_icmp .ne 13, 3) := by decide +kernel
theorem dX10_plan_88 : decode cX10_plan 88 = .ok (.aload_n 0, 1) := by decide +kernel
theorem dX10_plan_89 : decode cX10_plan 89 = .ok (.getfield 39, 3) := by decide +kernel
theorem dX10_plan_92 : decode cX10_plan 92 = .ok (.getfield 193, 3) := by decide +kernel
theorem dX10_plan_95 : decode cX10_plan 95 = .ok (.goto 11, 3) := by decide +kernel
theorem dX10_plan_98 : decode cX10_plan 98 = .ok (.aload_n 0, 1) := by decide +kernel
theorem dX10_plan_99 : decode cX10_plan 99 = .ok (.getfield 39, 3) := by decide +kernel
theorem dX10_plan_102 : decode cX10_plan 102 = .ok (.iload_n 2, 1) := by decide +kernel
theorem dX10_plan_103 : decode cX10_plan 103 = .ok (.invokevirtual 196, 3) := by decide +kernel
theorem dX10_plan_106 : decode cX10_plan 106 = .ok (.ireturn, 1) := by decide +kernel
set_option maxRecDepth 20000 in
theorem ggX10_night_X10_within : GoodIn wsX10_night wsX10_within := goodIn_r _ [7] (by decide +kernel) (by decide +kernel)
set_option maxRecDepth 20000 in
theorem gX10_night_X10_within : GoodIn wsX10_night (va_wsS RX10 67 yX10_within wsX10_within) := goodIn_app (goodIn_of _ (by decide +kernel)) ggX10_night_X10_within
set_option maxRecDepth 20000 in
theorem ggX10_night_X6_add : GoodIn wsX10_night wsX6_add := goodIn_r _ [12, 13, 14, 5, 6, 7, 30, 31] (by decide +kernel) (by decide +kernel)
set_option maxRecDepth 20000 in
theorem gX10_night_X6_add : GoodIn wsX10_night (wsV RX10 199 RX6 yX6_add wsX6_add) := goodIn_app (goodIn_of _ (by decide +kernel)) ggX10_night_X6_add
theorem dX10_night_0 : decode cX10_night 0 = .ok (.iload_n 1, 1) := by decide +kernel
theorem dX10_night_1 : decode cX10_night 1 = .ok (.iconst 0, 1) := by decide +kernel
theorem dX10_night_2 : decode cX10_night 2 = .ok (.iconst 3, 1) := by decide +kernel
theorem dX10_night_3 : decode cX10_night 3 = .ok (.invokestatic 67, 3) := by decide +kernel
theorem dX10_night_6 : decode cX10_night 6 = .ok (.ifCond .eq 12, 3) := by decide +kernel
theorem dX10_night_9 : decode cX10_night 9 = .ok (.iload_n 2, 1) := by decide +kernel
theorem dX10_night_10 : decode cX10_night 10 = .ok (.iconst 0, 1) := by decide +kernel
theorem dX10_night_11 : decode cX10_night 11 = .ok (.iconst 1, 1) := by decide +kernel
theorem dX10_night_12 : decode cX10_night 12 = .ok (.invokestatic 67, 3) := by decide +kernel
theorem dX10_night_15 : decode cX10_night 15 = .ok (.ifCond .ne 7, 3) := by decide +kernel
theorem dX10_night_18 : decode cX10_night 18 = .ok (.sipush (-1002), 3) := by decide +kernel
theorem dX10_night_21 : decode cX10_night 21 = .ok (.ireturn, 1) := by decide +kernel
theorem dX10_night_22 : decode cX10_night 22 = .ok (.iload_n 3, 1) := by decide +kernel
theorem dX10_night_23 : decode cX10_night 23 = .ok (.iconst 0, 1) := by decide +kernel
theorem dX10_night_24 : decode cX10_night 24 = .ok (.sipush 999, 3) := by decide +kernel
theorem dX10_night_27 : decode cX10_night 27 = .ok (.invokestatic 67, 3) := by decide +kernel
theorem dX10_night_30 : decode cX10_night 30 = .ok (.ifCond .eq 27, 3) := by decide +kernel
theorem dX10_night_33 : decode cX10_night 33 = .ok (.iload 4, 2) := by decide +kernel
theorem dX10_night_35 : decode cX10_night 35 = .ok (.iconst 0, 1) := by decide +kernel
theorem dX10_night_36 : decode cX10_night 36 = .ok (.sipush 999, 3) := by decide +kernel
theorem dX10_night_39 : decode cX10_night 39 = .ok (.invokestatic 67, 3) := by decide +kernel
theorem dX10_night_42 : decode cX10_night 42 = .ok (.ifCond .eq 15, 3) := by decide +kernel
theorem dX10_night_45 : decode cX10_night 45 = .ok (.iload 5, 2) := by decide +kernel
theorem dX10_night_47 : decode cX10_night 47 = .ok (.iconst 0, 1) := by decide +kernel
theorem dX10_night_48 : decode cX10_night 48 = .ok (.sipush 999, 3) := by decide +kernel
theorem dX10_night_51 : decode cX10_night 51 = .ok (.invokestatic 67, 3) := by decide +kernel
theorem dX10_night_54 : decode cX10_night 54 = .ok (.ifCond .ne 7, 3) := by decide +kernel
theorem dX10_night_57 : decode cX10_night 57 = .ok (.sipush (-1002), 3) := by decide +kernel
theorem dX10_night_60 : decode cX10_night 60 = .ok (.ireturn, 1) := by decide +kernel
theorem dX10_night_61 : decode cX10_night 61 = .ok (.aload_n 0, 1) := by decide +kernel
theorem dX10_night_62 : decode cX10_night 62 = .ok (.getfield 26, 3) := by decide +kernel
theorem dX10_night_65 : decode cX10_night 65 = .ok (.getfield 138, 3) := by decide +kernel
theorem dX10_night_68 : decode cX10_night 68 = .ok (.getfield 142, 3) := by decide +kernel
theorem dX10_night_71 : decode cX10_night 71 = .ok (.bipush 60, 2) := by decide +kernel
theorem dX10_night_73 : decode cX10_night 73 = .ok (.if_icmp .lt 7, 3) := by decide +kernel
theorem dX10_night_76 : decode cX10_night 76 = .ok (.sipush (-1004), 3) := by decide +kernel
theorem dX10_night_79 : decode cX10_night 79 = .ok (.ireturn, 1) := by decide +kernel
theorem dX10_night_80 : decode cX10_night 80 = .ok (.aload_n 0, 1) := by decide +kernel
theorem dX10_night_81 : decode cX10_night 81 = .ok (.getfield 26, 3) := by decide +kernel
theorem dX10_night_84 : decode cX10_night 84 = .ok (.getfield 138, 3) := by decide +kernel
theorem dX10_night_87 : decode cX10_night 87 = .ok (.iload_n 1, 1) := by decide +kernel
theorem dX10_night_88 : decode cX10_night 88 = .ok (.iload_n 2, 1) := by decide +kernel
theorem dX10_night_89 : decode cX10_night 89 = .ok (.iload_n 3, 1) := by decide +kernel
theorem dX10_night_90 : decode cX10_night 90 = .ok (.iload 4, 2) := by decide +kernel
theorem dX10_night_92 : decode cX10_night 92 = .ok (.iload 5, 2) := by decide +kernel
theorem dX10_night_94 : decode cX10_night 94 = .ok (.invokevirtual 199, 3) := by decide +kernel
theorem dX10_night_97 : decode cX10_night 97 = .ok (.ireturn, 1) := by decide +kernel
set_option maxRecDepth 20000 in
theorem ggX10_learnt_X10_within : GoodIn wsX10_learnt wsX10_within := goodIn_r _ [6] (by decide +kernel) (by decide +kernel)
set_option maxRecDepth 20000 in
theorem gX10_learnt_X10_within : GoodIn wsX10_learnt (va_wsS RX10 67 yX10_within wsX10_within) := goodIn_app (goodIn_of _ (by decide +kernel)) ggX10_learnt_X10_within
set_option maxRecDepth 20000 in
theorem ggX10_learnt_X6_oddsOf : GoodIn wsX10_learnt wsX6_oddsOf := goodIn_r _ [11, 12, 4, 5, 6, 28, 29] (by decide +kernel) (by decide +kernel)
set_option maxRecDepth 20000 in
theorem gX10_learnt_X6_oddsOf : GoodIn wsX10_learnt (wsV RX10 202 RX6 yX6_oddsOf wsX6_oddsOf) := goodIn_app (goodIn_of _ (by decide +kernel)) ggX10_learnt_X6_oddsOf
theorem dX10_learnt_0 : decode cX10_learnt 0 = .ok (.iload_n 1, 1) := by decide +kernel
theorem dX10_learnt_1 : decode cX10_learnt 1 = .ok (.iconst 0, 1) := by decide +kernel
theorem dX10_learnt_2 : decode cX10_learnt 2 = .ok (.iconst 3, 1) := by decide +kernel
theorem dX10_learnt_3 : decode cX10_learnt 3 = .ok (.invokestatic 67, 3) := by decide +kernel
theorem dX10_learnt_6 : decode cX10_learnt 6 = .ok (.ifCond .eq 12, 3) := by decide +kernel
theorem dX10_learnt_9 : decode cX10_learnt 9 = .ok (.iload_n 2, 1) := by decide +kernel
theorem dX10_learnt_10 : decode cX10_learnt 10 = .ok (.iconst 0, 1) := by decide +kernel
theorem dX10_learnt_11 : decode cX10_learnt 11 = .ok (.iconst 1, 1) := by decide +kernel
theorem dX10_learnt_12 : decode cX10_learnt 12 = .ok (.invokestatic 67, 3) := by decide +kernel
theorem dX10_learnt_15 : decode cX10_learnt 15 = .ok (.ifCond .ne 7, 3) := by decide +kernel
theorem dX10_learnt_18 : decode cX10_learnt 18 = .ok (.sipush (-1002), 3) := by decide +kernel
theorem dX10_learnt_21 : decode cX10_learnt 21 = .ok (.ireturn, 1) := by decide +kernel
theorem dX10_learnt_22 : decode cX10_learnt 22 = .ok (.iload_n 3, 1) := by decide +kernel
theorem dX10_learnt_23 : decode cX10_learnt 23 = .ok (.iconst 0, 1) := by decide +kernel
theorem dX10_learnt_24 : decode cX10_learnt 24 = .ok (.iconst 2, 1) := by decide +kernel
theorem dX10_learnt_25 : decode cX10_learnt 25 = .ok (.invokestatic 67, 3) := by decide +kernel
theorem dX10_learnt_28 : decode cX10_learnt 28 = .ok (.ifCond .ne 7, 3) := by decide +kernel
theorem dX10_learnt_31 : decode cX10_learnt 31 = .ok (.sipush (-1002), 3) := by decide +kernel
theorem dX10_learnt_34 : decode cX10_learnt 34 = .ok (.ireturn, 1) := by decide +kernel
theorem dX10_learnt_35 : decode cX10_learnt 35 = .ok (.aload_n 0, 1) := by decide +kernel
theorem dX10_learnt_36 : decode cX10_learnt 36 = .ok (.getfield 26, 3) := by decide +kernel
theorem dX10_learnt_39 : decode cX10_learnt 39 = .ok (.getfield 138, 3) := by decide +kernel
theorem dX10_learnt_42 : decode cX10_learnt 42 = .ok (.iload_n 1, 1) := by decide +kernel
theorem dX10_learnt_43 : decode cX10_learnt 43 = .ok (.iload_n 2, 1) := by decide +kernel
theorem dX10_learnt_44 : decode cX10_learnt 44 = .ok (.iload_n 3, 1) := by decide +kernel
theorem dX10_learnt_45 : decode cX10_learnt 45 = .ok (.invokevirtual 202, 3) := by decide +kernel
theorem dX10_learnt_48 : decode cX10_learnt 48 = .ok (.ireturn, 1) := by decide +kernel
set_option maxRecDepth 20000 in
theorem ggX10_tonight_X10_within : GoodIn wsX10_tonight wsX10_within := goodIn_r _ [6] (by decide +kernel) (by decide +kernel)
set_option maxRecDepth 20000 in
theorem gX10_tonight_X10_within : GoodIn wsX10_tonight (va_wsS RX10 67 yX10_within wsX10_within) := goodIn_app (goodIn_of _ (by decide +kernel)) ggX10_tonight_X10_within
theorem dX10_tonight_0 : decode cX10_tonight 0 = .ok (.iload_n 1, 1) := by decide +kernel
theorem dX10_tonight_1 : decode cX10_tonight 1 = .ok (.iconst (-1), 1) := by decide +kernel
theorem dX10_tonight_2 : decode cX10_tonight 2 = .ok (.iconst 3, 1) := by decide +kernel
theorem dX10_tonight_3 : decode cX10_tonight 3 = .ok (.invokestatic 67, 3) := by decide +kernel
theorem dX10_tonight_6 : decode cX10_tonight 6 = .ok (.ifCond .eq 12, 3) := by decide +kernel
theorem dX10_tonight_9 : decode cX10_tonight 9 = .ok (.iload_n 2, 1) := by decide +kernel
theorem dX10_tonight_10 : decode cX10_tonight 10 = .ok (.iconst 0, 1) := by decide +kernel
theorem dX10_tonight_11 : decode cX10_tonight 11 = .ok (.iconst 1, 1) := by decide +kernel
theorem dX10_tonight_12 : decode cX10_tonight 12 = .ok (.invokestatic 67, 3) := by decide +kernel
theorem dX10_tonight_15 : decode cX10_tonight 15 = .ok (.ifCond .ne 7, 3) := by decide +kernel
theorem dX10_tonight_18 : decode cX10_tonight 18 = .ok (.sipush (-1002), 3) := by decide +kernel
theorem dX10_tonight_21 : decode cX10_tonight 21 = .ok (.ireturn, 1) := by decide +kernel
theorem dX10_tonight_22 : decode cX10_tonight 22 = .ok (.aload_n 0, 1) := by decide +kernel
theorem dX10_tonight_23 : decode cX10_tonight 23 = .ok (.iload_n 1, 1) := by decide +kernel
theorem dX10_tonight_24 : decode cX10_tonight 24 = .ok (.putfield 57, 3) := by decide +kernel
theorem dX10_tonight_27 : decode cX10_tonight 27 = .ok (.aload_n 0, 1) := by decide +kernel
theorem dX10_tonight_28 : decode cX10_tonight 28 = .ok (.iload_n 2, 1) := by decide +kernel
theorem dX10_tonight_29 : decode cX10_tonight 29 = .ok (.putfield 61, 3) := by decide +kernel
theorem dX10_tonight_32 : decode cX10_tonight 32 = .ok (.iconst 1, 1) := by decide +kernel
theorem dX10_tonight_33 : decode cX10_tonight 33 = .ok (.ireturn, 1) := by decide +kernel
set_option maxRecDepth 20000 in
theorem ggX10_hang_X10_isHand : GoodIn wsX10_hang wsX10_isHand := goodIn_r _ [10, 11, 12, 9, 13] (by decide +kernel) (by decide +kernel)
set_option maxRecDepth 20000 in
theorem gX10_hang_X10_isHand : GoodIn wsX10_hang (va_wsS RX10 206 yX10_isHand wsX10_isHand) := goodIn_app (goodIn_of _ (by decide +kernel)) ggX10_hang_X10_isHand
set_option maxRecDepth 20000 in
theorem ggX10_hang_X2_knows : GoodIn wsX10_hang wsX2_knows := goodIn_r _ [18, 19, 99, 100, 101, 102, 103, 104, 105, 106] (by decide +kernel) (by decide +kernel)
set_option maxRecDepth 20000 in
theorem gX10_hang_X2_knows : GoodIn wsX10_hang (wsV RX10 158 RX2 yX2_knows wsX2_knows) := goodIn_app (goodIn_of _ (by decide +kernel)) ggX10_hang_X2_knows
set_option maxRecDepth 20000 in
theorem ggX10_hang_X3_hasPeg : GoodIn wsX10_hang wsX3_hasPeg := goodIn_r _ [24, 25, 107, 108, 109, 110, 111, 112, 113] (by decide +kernel) (by decide +kernel)
set_option maxRecDepth 20000 in
theorem gX10_hang_X3_hasPeg : GoodIn wsX10_hang (wsV RX10 105 RX3 yX3_hasPeg wsX3_hasPeg) := goodIn_app (goodIn_of _ (by decide +kernel)) ggX10_hang_X3_hasPeg
set_option maxRecDepth 20000 in
theorem ggX10_hang_X10_within : GoodIn wsX10_hang wsX10_within := goodIn_r _ [13] (by decide +kernel) (by decide +kernel)
set_option maxRecDepth 20000 in
theorem gX10_hang_X10_within : GoodIn wsX10_hang (va_wsS RX10 67 yX10_within wsX10_within) := goodIn_app (goodIn_of _ (by decide +kernel)) ggX10_hang_X10_within
set_option maxRecDepth 20000 in
theorem ggX10_hang_X10_mayHang : GoodIn wsX10_hang wsX10_mayHang := goodIn_r _ [29, 1, 4, 30, 3, 2, 31, 32, 33, 34, 35, 36, 37, 38, 39, 40, 41, 42, 43, 44, 45, 12, 9, 13, 46, 47, 48, 49, 50, 51, 52, 53, 54, 55, 17, 56, 57, 58, 15, 16, 18, 19, 59, 60, 61, 23, 62, 63, 64, 21, 22, 24, 25, 65, 66, 67, 68, 69, 84, 85, 86, 87, 88, 89, 90, 91, 92, 93, 94, 95, 96, 97, 98, 114, 115, 116, 117, 118, 119, 99, 100, 101, 102, 103, 104, 105, 106, 107, 108, 109, 110, 111, 112, 113] (by decide +kernel) (by decide +kernel)
set_option maxRecDepth 20000 in
theorem gX10_hang_X10_mayHang : GoodIn wsX10_hang (wsV RX10 209 RX10 yX10_mayHang wsX10_mayHang) := goodIn_app (goodIn_of _ (by decide +kernel)) ggX10_hang_X10_mayHang
set_option maxRecDepth 20000 in
theorem ggX10_hang_X2_brassIsOut : GoodIn wsX10_hang wsX2_brassIsOut := goodIn_r _ [73, 19, 74, 99, 100, 101, 102, 103, 104, 105, 106] (by decide +kernel) (by decide +kernel)
set_option maxRecDepth 20000 in
theorem gX10_hang_X2_brassIsOut : GoodIn wsX10_hang (wsV RX10 213 RX2 yX2_brassIsOut wsX2_brassIsOut) := goodIn_app (goodIn_of _ (by decide +kernel)) ggX10_hang_X2_brassIsOut
set_option maxRecDepth 20000 in
theorem ggX10_hang_X1_isFull : GoodIn wsX10_hang wsX1_isFull := goodIn_r _ [78, 36, 114, 115] (by decide +kernel) (by decide +kernel)
set_option maxRecDepth 20000 in
theorem gX10_hang_X1_isFull : GoodIn wsX10_hang (wsV RX10 216 RX1 yX1_isFull wsX1_isFull) := goodIn_app (goodIn_of _ (by decide +kernel)) ggX10_hang_X1_isFull
set_option maxRecDepth 20000 in
theorem ggX10_hang_X1_add : GoodIn wsX10_hang wsX1_add := goodIn_r _ [82, 36, 41, 83, 76, 77, 34, 78, 114, 115] (by decide +kernel) (by decide +kernel)
set_option maxRecDepth 20000 in
theorem gX10_hang_X1_add : GoodIn wsX10_hang (wsV RX10 220 RX1 yX1_add wsX1_add) := goodIn_app (goodIn_of _ (by decide +kernel)) ggX10_hang_X1_add
theorem dX10_hang_0 : decode cX10_hang 0 = .ok (.iload_n 1, 1) := by decide +kernel
theorem dX10_hang_1 : decode cX10_hang 1 = .ok (.invokestatic 206, 3) := by decide +kernel
theorem dX10_hang_4 : decode cX10_hang 4 = .ok (.ifCond .eq 28, 3) := by decide +kernel
theorem dX10_hang_7 : decode cX10_hang 7 = .ok (.aload_n 0, 1) := by decide +kernel
theorem dX10_hang_8 : decode cX10_hang 8 = .ok (.getfield 26, 3) := by decide +kernel
theorem dX10_hang_11 : decode cX10_hang 11 = .ok (.getfield 116, 3) := by decide +kernel
theorem dX10_hang_14 : decode cX10_hang 14 = .ok (.iload_n 2, 1) := by decide +kernel
theorem dX10_hang_15 : decode cX10_hang 15 = .ok (.invokevirtual 158, 3) := by decide +kernel
theorem dX10_hang_18 : decode cX10_hang 18 = .ok (.ifCond .eq 14, 3) := by decide +kernel
theorem dX10_hang_21 : decode cX10_hang 21 = .ok (.aload_n 0, 1) := by decide +kernel
theorem dX10_hang_22 : decode cX10_hang 22 = .ok (.getfield 10, 3) := by decide +kernel
theorem dX10_hang_25 : decode cX10_hang 25 = .ok (.iload_n 3, 1) := by decide +kernel
theorem dX10_hang_26 : decode cX10_hang 26 = .ok (.invokevirtual 105, 3) := by decide +kernel
theorem dX10_hang_29 : decode cX10_hang 29 = .ok (.ifCond .ne 7, 3) := by decide +kernel
theorem dX10_hang_32 : decode cX10_hang 32 = .ok (.sipush (-1001), 3) := by decide +kernel
theorem dX10_hang_35 : decode cX10_hang 35 = .ok (.ireturn, 1) := by decide +kernel
theorem dX10_hang_36 : decode cX10_hang 36 = .ok (.iload 4, 2) := by decide +kernel
theorem dX10_hang_38 : decode cX10_hang 38 = .ok (.iconst 0, 1) := by decide +kernel
theorem dX10_hang_39 : decode cX10_hang 39 = .ok (.bipush 23, 2) := by decide +kernel
theorem dX10_hang_41 : decode cX10_hang 41 = .ok (.invokestatic 67, 3) := by decide +kernel
theorem dX10_hang_44 : decode cX10_hang 44 = .ok (.ifCond .ne 7, 3) := by decide +kernel
theorem dX10_hang_47 : decode cX10_hang 47 = .ok (.sipush (-1002), 3) := by decide +kernel
theorem dX10_hang_50 : decode cX10_hang 50 = .ok (.ireturn, 1) := by decide +kernel
theorem dX10_hang_51 : decode cX10_hang 51 = .ok (.aload_n 0, 1) := by decide +kernel
theorem dX10_hang_52 : decode cX10_hang 52 = .ok (.iload_n 2, 1) := by decide +kernel
theorem dX10_hang_53 : decode cX10_hang 53 = .ok (.iload_n 3, 1) := by decide +kernel
theorem dX10_hang_54 : decode cX10_hang 54 = .ok (.invokevirtual 209, 3) := by decide +kernel
theorem dX10_hang_57 : decode cX10_hang 57 = .ok (.ifCond .eq 18, 3) := by decide +kernel
theorem dX10_hang_60 : decode cX10_hang 60 = .ok (.aload_n 0, 1) := by decide +kernel
theorem dX10_hang_61 : decode cX10_hang 61 = .ok (.getfield 26, 3) := by decide +kernel
theorem dX10_hang_64 : decode cX10_hang 64 = .ok (.getfield 116, 3) := by decide +kernel
