theorem dX10_hang_67 : decode cX10_hang 67 = .ok (.iload 4, 2) := by decide +kernel
theorem dX10_hang_69 : decode cX10_hang 69 = .ok (.invokevirtual 213, 3) := by decide +kernel
theorem dX10_hang_72 : decode cX10_hang 72 = .ok (.ifCond .eq 7, 3) := by decide +kernel
theorem dX10_hang_75 : decode cX10_hang 75 = .ok (.sipush (-1003), 3) := by decide +kernel
theorem dX10_hang_78 : decode cX10_hang 78 = .ok (.ireturn, 1) := by decide +kernel
theorem dX10_hang_79 : decode cX10_hang 79 = .ok (.aload_n 0, 1) := by decide +kernel
theorem dX10_hang_80 : decode cX10_hang 80 = .ok (.getfield 26, 3) := by decide +kernel
theorem dX10_hang_83 : decode cX10_hang 83 = .ok (.getfield 78, 3) := by decide +kernel
theorem dX10_hang_86 : decode cX10_hang 86 = .ok (.invokevirtual 216, 3) := by decide +kernel
theorem dX10_hang_89 : decode cX10_hang 89 = .ok (.ifCond .eq 7, 3) := by decide +kernel
theorem dX10_hang_92 : decode cX10_hang 92 = .ok (.sipush (-1004), 3) := by decide +kernel
theorem dX10_hang_95 : decode cX10_hang 95 = .ok (.ireturn, 1) := by decide +kernel
theorem dX10_hang_96 : decode cX10_hang 96 = .ok (.aload_n 0, 1) := by decide +kernel
theorem dX10_hang_97 : decode cX10_hang 97 = .ok (.getfield 26, 3) := by decide +kernel
theorem dX10_hang_100 : decode cX10_hang 100 = .ok (.getfield 116, 3) := by decide +kernel
theorem dX10_hang_103 : decode cX10_hang 103 = .ok (.getfield 174, 3) := by decide +kernel
theorem dX10_hang_106 : decode cX10_hang 106 = .ok (.iload_n 2, 1) := by decide +kernel
theorem dX10_hang_107 : decode cX10_hang 107 = .ok (.iload_n 3, 1) := by decide +kernel
theorem dX10_hang_108 : decode cX10_hang 108 = .ok (.iastore, 1) := by decide +kernel
theorem dX10_hang_109 : decode cX10_hang 109 = .ok (.aload_n 0, 1) := by decide +kernel
theorem dX10_hang_110 : decode cX10_hang 110 = .ok (.getfield 26, 3) := by decide +kernel
theorem dX10_hang_113 : decode cX10_hang 113 = .ok (.getfield 116, 3) := by decide +kernel
theorem dX10_hang_116 : decode cX10_hang 116 = .ok (.getfield 171, 3) := by decide +kernel
theorem dX10_hang_119 : decode cX10_hang 119 = .ok (.iload_n 2, 1) := by decide +kernel
theorem dX10_hang_120 : decode cX10_hang 120 = .ok (.iload 4, 2) := by decide +kernel
theorem dX10_hang_122 : decode cX10_hang 122 = .ok (.iastore, 1) := by decide +kernel
theorem dX10_hang_123 : decode cX10_hang 123 = .ok (.aload_n 0, 1) := by decide +kernel
theorem dX10_hang_124 : decode cX10_hang 124 = .ok (.getfield 26, 3) := by decide +kernel
theorem dX10_hang_127 : decode cX10_hang 127 = .ok (.getfield 78, 3) := by decide +kernel
theorem dX10_hang_130 : decode cX10_hang 130 = .ok (.iconst 0, 1) := by decide +kernel
theorem dX10_hang_131 : decode cX10_hang 131 = .ok (.iload_n 1, 1) := by decide +kernel
theorem dX10_hang_132 : decode cX10_hang 132 = .ok (.iload_n 2, 1) := by decide +kernel
theorem dX10_hang_133 : decode cX10_hang 133 = .ok (.iload_n 3, 1) := by decide +kernel
theorem dX10_hang_134 : decode cX10_hang 134 = .ok (.iload 4, 2) := by decide +kernel
theorem dX10_hang_136 : decode cX10_hang 136 = .ok (.iload_n 2, 1) := by decide +kernel
theorem dX10_hang_137 : decode cX10_hang 137 = .ok (.invokevirtual 220, 3) := by decide +kernel
theorem dX10_hang_140 : decode cX10_hang 140 = .ok (.ireturn, 1) := by decide +kernel
set_option maxRecDepth 20000 in
theorem ggX10_give_X10_isHand : GoodIn wsX10_give wsX10_isHand := goodIn_r _ [10, 11, 12, 9, 13] (by decide +kernel) (by decide +kernel)
set_option maxRecDepth 20000 in
theorem gX10_give_X10_isHand : GoodIn wsX10_give (va_wsS RX10 206 yX10_isHand wsX10_isHand) := goodIn_app (goodIn_of _ (by decide +kernel)) ggX10_give_X10_isHand
set_option maxRecDepth 20000 in
theorem ggX10_give_X2_knows : GoodIn wsX10_give wsX2_knows := goodIn_r _ [18, 19, 64, 65, 66, 67, 68, 69, 70, 71] (by decide +kernel) (by decide +kernel)
set_option maxRecDepth 20000 in
theorem gX10_give_X2_knows : GoodIn wsX10_give (wsV RX10 158 RX2 yX2_knows wsX2_knows) := goodIn_app (goodIn_of _ (by decide +kernel)) ggX10_give_X2_knows
set_option maxRecDepth 20000 in
theorem ggX10_give_X3_hasPeg : GoodIn wsX10_give wsX3_hasPeg := goodIn_r _ [24, 25, 72, 73, 74, 75, 76, 77, 78] (by decide +kernel) (by decide +kernel)
set_option maxRecDepth 20000 in
theorem gX10_give_X3_hasPeg : GoodIn wsX10_give (wsV RX10 105 RX3 yX3_hasPeg wsX3_hasPeg) := goodIn_app (goodIn_of _ (by decide +kernel)) ggX10_give_X3_hasPeg
set_option maxRecDepth 20000 in
theorem ggX10_give_X2_ownerOn : GoodIn wsX10_give wsX2_ownerOn := goodIn_r _ [29, 19, 30, 64, 65, 66, 67, 68, 69, 70, 71] (by decide +kernel) (by decide +kernel)
set_option maxRecDepth 20000 in
theorem gX10_give_X2_ownerOn : GoodIn wsX10_give (wsV RX10 120 RX2 yX2_ownerOn wsX2_ownerOn) := goodIn_app (goodIn_of _ (by decide +kernel)) ggX10_give_X2_ownerOn
set_option maxRecDepth 20000 in
theorem ggX10_give_X1_isFull : GoodIn wsX10_give wsX1_isFull := goodIn_r _ [35, 36, 79, 80] (by decide +kernel) (by decide +kernel)
set_option maxRecDepth 20000 in
theorem gX10_give_X1_isFull : GoodIn wsX10_give (wsV RX10 216 RX1 yX1_isFull wsX1_isFull) := goodIn_app (goodIn_of _ (by decide +kernel)) ggX10_give_X1_isFull
set_option maxRecDepth 20000 in
theorem ggX10_give_X2_handOver : GoodIn wsX10_give wsX2_handOver := goodIn_r _ [40, 30, 41, 42, 15, 16, 17, 18, 19, 64, 65, 66, 67, 68, 69, 70, 71] (by decide +kernel) (by decide +kernel)
set_option maxRecDepth 20000 in
theorem gX10_give_X2_handOver : GoodIn wsX10_give (wsV RX10 223 RX2 yX2_handOver wsX2_handOver) := goodIn_app (goodIn_of _ (by decide +kernel)) ggX10_give_X2_handOver
set_option maxRecDepth 20000 in
theorem ggX10_give_X1_add : GoodIn wsX10_give wsX1_add := goodIn_r _ [46, 36, 47, 48, 32, 33, 34, 35, 79, 80] (by decide +kernel) (by decide +kernel)
set_option maxRecDepth 20000 in
theorem gX10_give_X1_add : GoodIn wsX10_give (wsV RX10 220 RX1 yX1_add wsX1_add) := goodIn_app (goodIn_of _ (by decide +kernel)) ggX10_give_X1_add
theorem dX10_give_0 : decode cX10_give 0 = .ok (.aload_n 0, 1) := by decide +kernel
theorem dX10_give_1 : decode cX10_give 1 = .ok (.getfield 26, 3) := by decide +kernel
theorem dX10_give_4 : decode cX10_give 4 = .ok (.getfield 116, 3) := by decide +kernel
theorem dX10_give_7 : decode cX10_give 7 = .ok (.astore 4, 2) := by decide +kernel
theorem dX10_give_9 : decode cX10_give 9 = .ok (.iload_n 1, 1) := by decide +kernel
theorem dX10_give_10 : decode cX10_give 10 = .ok (.invokestatic 206, 3) := by decide +kernel
theorem dX10_give_13 : decode cX10_give 13 = .ok (.ifCond .eq 23, 3) := by decide +kernel
theorem dX10_give_16 : decode cX10_give 16 = .ok (.aload 4, 2) := by decide +kernel
theorem dX10_give_18 : decode cX10_give 18 = .ok (.iload_n 2, 1) := by decide +kernel
theorem dX10_give_19 : decode cX10_give 19 = .ok (.invokevirtual 158, 3) := by decide +kernel
theorem dX10_give_22 : decode cX10_give 22 = .ok (.ifCond .eq 14, 3) := by decide +kernel
theorem dX10_give_25 : decode cX10_give 25 = .ok (.aload_n 0, 1) := by decide +kernel
theorem dX10_give_26 : decode cX10_give 26 = .ok (.getfield 10, 3) := by decide +kernel
theorem dX10_give_29 : decode cX10_give 29 = .ok (.iload_n 3, 1) := by decide +kernel
theorem dX10_give_30 : decode cX10_give 30 = .ok (.invokevirtual 105, 3) := by decide +kernel
theorem dX10_give_33 : decode cX10_give 33 = .ok (.ifCond .ne 7, 3) := by decide +kernel
theorem dX10_give_36 : decode cX10_give 36 = .ok (.sipush (-1001), 3) := by decide +kernel
theorem dX10_give_39 : decode cX10_give 39 = .ok (.ireturn, 1) := by decide +kernel
theorem dX10_give_40 : decode cX10_give 40 = .ok (.aload 4, 2) := by decide +kernel
theorem dX10_give_42 : decode cX10_give 42 = .ok (.iload_n 3, 1) := by decide +kernel
theorem dX10_give_43 : decode cX10_give 43 = .ok (.invokevirtual 120, 3) := by decide +kernel
theorem dX10_give_46 : decode cX10_give 46 = .ok (.istore 5, 2) := by decide +kernel
theorem dX10_give_48 : decode cX10_give 48 = .ok (.aload 4, 2) := by decide +kernel
theorem dX10_give_50 : decode cX10_give 50 = .ok (.getfield 171, 3) := by decide +kernel
theorem dX10_give_53 : decode cX10_give 53 = .ok (.iload_n 2, 1) := by decide +kernel
theorem dX10_give_54 : decode cX10_give 54 = .ok (.iaload, 1) := by decide +kernel
theorem dX10_give_55 : decode cX10_give 55 = .ok (.iconst (-1), 1) := by decide +kernel
theorem dX10_give_56 : decode cX10_give 56 = .ok (.if_icmp .eq 20, 3) := by decide +kernel
theorem dX10_give_59 : decode cX10_give 59 = .ok (.aload 4, 2) := by decide +kernel
theorem dX10_give_61 : decode cX10_give 61 = .ok (.getfield 180, 3) := by decide +kernel
theorem dX10_give_64 : decode cX10_give 64 = .ok (.iload_n 2, 1) := by decide +kernel
theorem dX10_give_65 : decode cX10_give 65 = .ok (.iaload, 1) := by decide +kernel
theorem dX10_give_66 : decode cX10_give 66 = .ok (.iconst (-1), 1) := by decide +kernel
theorem dX10_give_67 : decode cX10_give 67 = .ok (.if_icmp .ne 9, 3) := by decide +kernel
theorem dX10_give_70 : decode cX10_give 70 = .ok (.iload 5, 2) := by decide +kernel
theorem dX10_give_72 : decode cX10_give 72 = .ok (.iconst (-1), 1) := by decide +kernel
theorem dX10_give_73 : decode cX10_give 73 = .ok (.if_icmp .ne 7, 3) := by decide +kernel
theorem dX10_give_76 : decode cX10_give 76 = .ok (.sipush (-1003), 3) := by decide +kernel
theorem dX10_give_79 : decode cX10_give 79 = .ok (.ireturn, 1) := by decide +kernel
theorem dX10_give_80 : decode cX10_give 80 = .ok (.aload_n 0, 1) := by decide +kernel
theorem dX10_give_81 : decode cX10_give 81 = .ok (.getfield 26, 3) := by decide +kernel
theorem dX10_give_84 : decode cX10_give 84 = .ok (.getfield 78, 3) := by decide +kernel
theorem dX10_give_87 : decode cX10_give 87 = .ok (.invokevirtual 216, 3) := by decide +kernel
theorem dX10_give_90 : decode cX10_give 90 = .ok (.ifCond .eq 7, 3) := by decide +kernel
theorem dX10_give_93 : decode cX10_give 93 = .ok (.sipush (-1004), 3) := by decide +kernel
theorem dX10_give_96 : decode cX10_give 96 = .ok (.ireturn, 1) := by decide +kernel
theorem dX10_give_97 : decode cX10_give 97 = .ok (.aload 4, 2) := by decide +kernel
theorem dX10_give_99 : decode cX10_give 99 = .ok (.getfield 171, 3) := by decide +kernel
theorem dX10_give_102 : decode cX10_give 102 = .ok (.iload_n 2, 1) := by decide +kernel
theorem dX10_give_103 : decode cX10_give 103 = .ok (.iaload, 1) := by decide +kernel
theorem dX10_give_104 : decode cX10_give 104 = .ok (.istore 6, 2) := by decide +kernel
theorem dX10_give_106 : decode cX10_give 106 = .ok (.aload 4, 2) := by decide +kernel
theorem dX10_give_108 : decode cX10_give 108 = .ok (.getfield 171, 3) := by decide +kernel
theorem dX10_give_111 : decode cX10_give 111 = .ok (.iload_n 2, 1) := by decide +kernel
theorem dX10_give_112 : decode cX10_give 112 = .ok (.iconst (-1), 1) := by decide +kernel
theorem dX10_give_113 : decode cX10_give 113 = .ok (.iastore, 1) := by decide +kernel
theorem dX10_give_114 : decode cX10_give 114 = .ok (.aload 4, 2) := by decide +kernel
theorem dX10_give_116 : decode cX10_give 116 = .ok (.iload 5, 2) := by decide +kernel
theorem dX10_give_118 : decode cX10_give 118 = .ok (.iload_n 2, 1) := by decide +kernel
theorem dX10_give_119 : decode cX10_give 119 = .ok (.invokevirtual 223, 3) := by decide +kernel
theorem dX10_give_122 : decode cX10_give 122 = .ok (.aload_n 0, 1) := by decide +kernel
theorem dX10_give_123 : decode cX10_give 123 = .ok (.getfield 26, 3) := by decide +kernel
theorem dX10_give_126 : decode cX10_give 126 = .ok (.getfield 78, 3) := by decide +kernel
theorem dX10_give_129 : decode cX10_give 129 = .ok (.iconst 1, 1) := by decide +kernel
theorem dX10_give_130 : decode cX10_give 130 = .ok (.iload_n 1, 1) := by decide +kernel
theorem dX10_give_131 : decode cX10_give 131 = .ok (.iload_n 2, 1) := by decide +kernel
theorem dX10_give_132 : decode cX10_give 132 = .ok (.iload_n 3, 1) := by decide +kernel
theorem dX10_give_133 : decode cX10_give 133 = .ok (.iload 6, 2) := by decide +kernel
theorem dX10_give_135 : decode cX10_give 135 = .ok (.iload 5, 2) := by decide +kernel
theorem dX10_give_137 : decode cX10_give 137 = .ok (.invokevirtual 220, 3) := by decide +kernel
theorem dX10_give_140 : decode cX10_give 140 = .ok (.ireturn, 1) := by decide +kernel
set_option maxRecDepth 20000 in
theorem ggX10_lose_X2_knows : GoodIn wsX10_lose wsX2_knows := goodIn_r _ [9, 10, 38, 39, 40, 41, 42, 43, 44, 45] (by decide +kernel) (by decide +kernel)
set_option maxRecDepth 20000 in
theorem gX10_lose_X2_knows : GoodIn wsX10_lose (wsV RX10 158 RX2 yX2_knows wsX2_knows) := goodIn_app (goodIn_of _ (by decide +kernel)) ggX10_lose_X2_knows
set_option maxRecDepth 20000 in
theorem ggX10_lose_X1_isFull : GoodIn wsX10_lose wsX1_isFull := goodIn_r _ [15, 16, 46, 47] (by decide +kernel) (by decide +kernel)
set_option maxRecDepth 20000 in
theorem gX10_lose_X1_isFull : GoodIn wsX10_lose (wsV RX10 216 RX1 yX1_isFull wsX1_isFull) := goodIn_app (goodIn_of _ (by decide +kernel)) ggX10_lose_X1_isFull
set_option maxRecDepth 20000 in
theorem ggX10_lose_X1_add : GoodIn wsX10_lose wsX1_add := goodIn_r _ [20, 16, 21, 22, 12, 13, 14, 15, 46, 47] (by decide +kernel) (by decide +kernel)
set_option maxRecDepth 20000 in
theorem gX10_lose_X1_add : GoodIn wsX10_lose (wsV RX10 220 RX1 yX1_add wsX1_add) := goodIn_app (goodIn_of _ (by decide +kernel)) ggX10_lose_X1_add
theorem dX10_lose_0 : decode cX10_lose 0 = .ok (.aload_n 0, 1) := by decide +kernel
theorem dX10_lose_1 : decode cX10_lose 1 = .ok (.getfield 26, 3) := by decide +kernel
theorem dX10_lose_4 : decode cX10_lose 4 = .ok (.getfield 116, 3) := by decide +kernel
theorem dX10_lose_7 : decode cX10_lose 7 = .ok (.iload_n 1, 1) := by decide +kernel
theorem dX10_lose_8 : decode cX10_lose 8 = .ok (.invokevirtual 158, 3) := by decide +kernel
theorem dX10_lose_11 : decode cX10_lose 11 = .ok (.ifCond .ne 7, 3) := by decide +kernel
theorem dX10_lose_14 : decode cX10_lose 14 = .ok (.sipush (-1001), 3) := by decide +kernel
theorem dX10_lose_17 : decode cX10_lose 17 = .ok (.ireturn, 1) := by decide +kernel
theorem dX10_lose_18 : decode cX10_lose 18 = .ok (.aload_n 0, 1) := by decide +kernel
theorem dX10_lose_19 : decode cX10_lose 19 = .ok (.getfield 26, 3) := by decide +kernel
theorem dX10_lose_22 : decode cX10_lose 22 = .ok (.getfield 116, 3) := by decide +kernel
theorem dX10_lose_25 : decode cX10_lose 25 = .ok (.getfield 171, 3) := by decide +kernel
theorem dX10_lose_28 : decode cX10_lose 28 = .ok (.iload_n 1, 1) := by decide +kernel
theorem dX10_lose_29 : decode cX10_lose 29 = .ok (.iaload, 1) := by decide +kernel
theorem dX10_lose_30 : decode cX10_lose 30 = .ok (.istore_n 2, 1) := by decide +kernel
theorem dX10_lose_31 : decode cX10_lose 31 = .ok (.iload_n 2, 1) := by decide +kernel
theorem dX10_lose_32 : decode cX10_lose 32 = .ok (.iconst (-1), 1) := by decide +kernel
theorem dX10_lose_33 : decode cX10_lose 33 = .ok (.if_icmp .ne 7, 3) := by decide +kernel
theorem dX10_lose_36 : decode cX10_lose 36 = .ok (.sipush (-1003), 3) := by decide +kernel
theorem dX10_lose_39 : decode cX10_lose 39 = .ok (.ireturn, 1) := by decide +kernel
theorem dX10_lose_40 : decode cX10_lose 40 = .ok (.aload_n 0, 1) := by decide +kernel
theorem dX10_lose_41 : decode cX10_lose 41 = .ok (.getfield 26, 3) := by decide +kernel
theorem dX10_lose_44 : decode cX10_lose 44 = .ok (.getfield 78, 3) := by decide +kernel
theorem dX10_lose_47 : decode cX10_lose 47 = .ok (.invokevirtual 216, 3) := by decide +kernel
theorem dX10_lose_50 : decode cX10_lose 50 = .ok (.ifCond .eq 7, 3) := by decide +kernel
theorem dX10_lose_53 : decode cX10_lose 53 = .ok (.sipush (-1004), 3) := by decide +kernel
theorem dX10_lose_56 : decode cX10_lose 56 = .ok (.ireturn, 1) := by decide +kernel
theorem dX10_lose_57 : decode cX10_lose 57 = .ok (.aload_n 0, 1) := by decide +kernel
theorem dX10_lose_58 : decode cX10_lose 58 = .ok (.getfield 26, 3) := by decide +kernel
theorem dX10_lose_61 : decode cX10_lose 61 = .ok (.getfield 116, 3) := by decide +kernel
theorem dX10_lose_64 : decode cX10_lose 64 = .ok (.getfield 171, 3) := by decide +kernel
theorem dX10_lose_67 : decode cX10_lose 67 = .ok (.iload_n 1, 1) := by decide +kernel
theorem dX10_lose_68 : decode cX10_lose 68 = .ok (.iconst (-1), 1) := by decide +kernel
theorem dX10_lose_69 : decode cX10_lose 69 = .ok (.iastore, 1) := by decide +kernel
theorem dX10_lose_70 : decode cX10_lose 70 = .ok (.aload_n 0, 1) := by decide +kernel
theorem dX10_lose_71 : decode cX10_lose 71 = .ok (.getfield 26, 3) := by decide +kernel
theorem dX10_lose_74 : decode cX10_lose 74 = .ok (.getfield 78, 3) := by decide +kernel
theorem dX10_lose_77 : decode cX10_lose 77 = .ok (.iconst 2, 1) := by decide +kernel
theorem dX10_lose_78 : decode cX10_lose 78 = .ok (.iconst (-1), 1) := by decide +kernel
theorem dX10_lose_79 : decode cX10_lose 79 = .ok (.iload_n 1, 1) := by decide +kernel
theorem dX10_lose_80 : decode cX10_lose 80 = .ok (.iconst (-1), 1) := by decide +kernel
theorem dX10_lose_81 : decode cX10_lose 81 = .ok (.iload_n 2, 1) := by decide +kernel
theorem dX10_lose_82 : decode cX10_lose 82 = .ok (.iconst (-1), 1) := by decide +kernel
theorem dX10_lose_83 : decode cX10_lose 83 = .ok (.invokevirtual 220, 3) := by decide +kernel
theorem dX10_lose_86 : decode cX10_lose 86 = .ok (.ireturn, 1) := by decide +kernel
set_option maxRecDepth 20000 in
theorem ggX10_event_X1_knows : GoodIn wsX10_event wsX1_knows := goodIn_r _ [7, 8, 34, 35] (by decide +kernel) (by decide +kernel)
set_option maxRecDepth 20000 in
theorem gX10_event_X1_knows : GoodIn wsX10_event (wsV RX10 227 RX1 yX1_knows wsX1_knows) := goodIn_app (goodIn_of _ (by decide +kernel)) ggX10_event_X1_knows
set_option maxRecDepth 20000 in
theorem ggX10_event_X10_within : GoodIn wsX10_event wsX10_within := goodIn_r _ [12] (by decide +kernel) (by decide +kernel)
set_option maxRecDepth 20000 in
theorem gX10_event_X10_within : GoodIn wsX10_event (va_wsS RX10 67 yX10_within wsX10_within) := goodIn_app (goodIn_of _ (by decide +kernel)) ggX10_event_X10_within
set_option maxRecDepth 20000 in
theorem ggX10_event_X1_factOf : GoodIn wsX10_event wsX1_factOf := goodIn_r _ [16, 17, 18, 4, 5, 6, 7, 8, 10, 11, 12, 34, 35] (by decide +kernel) (by decide +kernel)
set_option maxRecDepth 20000 in
theorem gX10_event_X1_factOf : GoodIn wsX10_event (wsV RX10 228 RX1 yX1_factOf wsX1_factOf) := goodIn_app (goodIn_of _ (by decide +kernel)) ggX10_event_X1_factOf
theorem dX10_event_0 : decode cX10_event 0 = .ok (.aload_n 0, 1) := by decide +kernel
theorem dX10_event_1 : decode cX10_event 1 = .ok (.getfield 26, 3) := by decide +kernel
theorem dX10_event_4 : decode cX10_event 4 = .ok (.getfield 78, 3) := by decide +kernel
theorem dX10_event_7 : decode cX10_event 7 = .ok (.iload_n 1, 1) := by decide +kernel
theorem dX10_event_8 : decode cX10_event 8 = .ok (.invokevirtual 227, 3) := by decide +kernel
theorem dX10_event_11 : decode cX10_event 11 = .ok (.ifCond .ne 7, 3) := by decide +kernel
theorem dX10_event_14 : decode cX10_event 14 = .ok (.sipush (-1001), 3) := by decide +kernel
theorem dX10_event_17 : decode cX10_event 17 = .ok (.ireturn, 1) := by decide +kernel
theorem dX10_event_18 : decode cX10_event 18 = .ok (.iload_n 2, 1) := by decide +kernel
theorem dX10_event_19 : decode cX10_event 19 = .ok (.iconst 0, 1) := by decide +kernel
theorem dX10_event_20 : decode cX10_event 20 = .ok (.bipush 6, 2) := by decide +kernel
theorem dX10_event_22 : decode cX10_event 22 = .ok (.invokestatic 67, 3) := by decide +kernel
theorem dX10_event_25 : decode cX10_event 25 = .ok (.ifCond .ne 7, 3) := by decide +kernel
theorem dX10_event_28 : decode cX10_event 28 = .ok (.sipush (-1002), 3) := by decide +kernel
theorem dX10_event_31 : decode cX10_event 31 = .ok (.ireturn, 1) := by decide +kernel
theorem dX10_event_32 : decode cX10_event 32 = .ok (.aload_n 0, 1) := by decide +kernel
theorem dX10_event_33 : decode cX10_event 33 = .ok (.getfield 26, 3) := by decide +kernel
theorem dX10_event_36 : decode cX10_event 36 = .ok (.getfield 78, 3) := by decide +kernel
theorem dX10_event_39 : decode cX10_event 39 = .ok (.iload_n 1, 1) := by decide +kernel
theorem dX10_event_40 : decode cX10_event 40 = .ok (.iload_n 2, 1) := by decide +kernel
theorem dX10_event_41 : decode cX10_event 41 = .ok (.invokevirtual 228, 3) := by decide +kernel
theorem dX10_event_44 : decode cX10_event 44 = .ok (.ireturn, 1) := by decide +kernel
set_option maxRecDepth 20000 in
theorem ggX10_astray_X2_isAstray : GoodIn wsX10_astray wsX2_isAstray := goodIn_r _ [8, 9, 10, 11, 12, 7, 13, 14, 30, 31, 32, 33, 34, 35, 36, 37] (by decide +kernel) (by decide +kernel)
set_option maxRecDepth 20000 in
theorem gX10_astray_X2_isAstray : GoodIn wsX10_astray (wsV RX10 231 RX2 yX2_isAstray wsX2_isAstray) := goodIn_app (goodIn_of _ (by decide +kernel)) ggX10_astray_X2_isAstray
theorem dX10_astray_0 : decode cX10_astray 0 = .ok (.iconst 0, 1) := by decide +kernel
theorem dX10_astray_1 : decode cX10_astray 1 = .ok (.istore_n 1, 1) := by decide +kernel
theorem dX10_astray_2 : decode cX10_astray 2 = .ok (.iconst 0, 1) := by decide +kernel
theorem dX10_astray_3 : decode cX10_astray 3 = .ok (.istore_n 2, 1) := by decide +kernel
theorem dX10_astray_4 : decode cX10_astray 4 = .ok (.iload_n 2, 1) := by decide +kernel
theorem dX10_astray_5 : decode cX10_astray 5 = .ok (.aload_n 0, 1) := by decide +kernel
theorem dX10_astray_6 : decode cX10_astray 6 = .ok (.getfield 26, 3) := by decide +kernel
theorem dX10_astray_9 : decode cX10_astray 9 = .ok (.getfield 116, 3) := by decide +kernel
theorem dX10_astray_12 : decode cX10_astray 12 = .ok (.getfield 130, 3) := by decide +kernel
theorem dX10_astray_15 : decode cX10_astray 15 = .ok (.if_icmp .ge 29, 3) := by decide +kernel
theorem dX10_astray_18 : decode cX10_astray 18 = .ok (.aload_n 0, 1) := by decide +kernel
theorem dX10_astray_19 : decode cX10_astray 19 = .ok (.getfield 26, 3) := by decide +kernel
theorem dX10_astray_22 : decode cX10_astray 22 = .ok (.getfield 116, 3) := by decide +kernel
theorem dX10_astray_25 : decode cX10_astray 25 = .ok (.iload_n 2, 1) := by decide +kernel
theorem dX10_astray_26 : decode cX10_astray 26 = .ok (.invokevirtual 231, 3) := by decide +kernel
theorem dX10_astray_29 : decode cX10_astray 29 = .ok (.ifCond .eq 9, 3) := by decide +kernel
theorem dX10_astray_32 : decode cX10_astray 32 = .ok (.iload_n 1, 1) := by decide +kernel
theorem dX10_astray_33 : decode cX10_astray 33 = .ok (.iconst 1, 1) := by decide +kernel
theorem dX10_astray_34 : decode cX10_astray 34 = .ok (.iload_n 2, 1) := by decide +kernel
theorem dX10_astray_35 : decode cX10_astray 35 = .ok (.ishl, 1) := by decide +kernel
theorem dX10_astray_36 : decode cX10_astray 36 = .ok (.ior, 1) := by decide +kernel
theorem dX10_astray_37 : decode cX10_astray 37 = .ok (.istore_n 1, 1) := by decide +kernel
theorem dX10_astray_38 : decode cX10_astray 38 = .ok (.iinc 2 1, 3) := by decide +kernel
theorem dX10_astray_41 : decode cX10_astray 41 = .ok (.goto (-37), 3) := by decide +kernel
theorem dX10_astray_44 : decode cX10_astray 44 = .ok (.iload_n 1, 1) := by decide +kernel
theorem dX10_astray_45 : decode cX10_astray 45 = .ok (.ireturn, 1) := by decide +kernel
set_option maxRecDepth 20000 in
theorem ggX10_chain_X2_knows : GoodIn wsX10_chain wsX2_knows := goodIn_r _ [7, 8, 42, 43, 44, 45, 46, 47, 48, 49] (by decide +kernel) (by decide +kernel)
set_option maxRecDepth 20000 in
theorem gX10_chain_X2_knows : GoodIn wsX10_chain (wsV RX10 158 RX2 yX2_knows wsX2_knows) := goodIn_app (goodIn_of _ (by decide +kernel)) ggX10_chain_X2_knows
set_option maxRecDepth 20000 in
theorem ggX10_chain_X2_isAstray : GoodIn wsX10_chain wsX2_isAstray := goodIn_r _ [12, 13, 14, 4, 5, 6, 7, 8, 42, 43, 44, 45, 46, 47, 48, 49] (by decide +kernel) (by decide +kernel)
set_option maxRecDepth 20000 in
theorem gX10_chain_X2_isAstray : GoodIn wsX10_chain (wsV RX10 231 RX2 yX2_isAstray wsX2_isAstray) := goodIn_app (goodIn_of _ (by decide +kernel)) ggX10_chain_X2_isAstray
set_option maxRecDepth 20000 in
theorem ggX10_chain_X2_chainLength : GoodIn wsX10_chain wsX2_chainLength := goodIn_r _ [18, 19, 20, 21, 6, 22, 13, 14, 4, 5, 7, 8, 42, 43, 44, 45, 46, 47, 48, 49] (by decide +kernel) (by decide +kernel)
set_option maxRecDepth 20000 in
theorem gX10_chain_X2_chainLength : GoodIn wsX10_chain (wsV RX10 234 RX2 yX2_chainLength wsX2_chainLength) := goodIn_app (goodIn_of _ (by decide +kernel)) ggX10_chain_X2_chainLength
set_option maxRecDepth 20000 in
theorem ggX10_chain_X2_chainMember : GoodIn wsX10_chain wsX2_chainMember := goodIn_r _ [26, 19, 20, 21, 6, 22, 13, 14, 4, 5, 7, 8, 42, 43, 44, 45, 46, 47, 48, 49] (by decide +kernel) (by decide +kernel)
set_option maxRecDepth 20000 in
theorem gX10_chain_X2_chainMember : GoodIn wsX10_chain (wsV RX10 237 RX2 yX2_chainMember wsX2_chainMember) := goodIn_app (goodIn_of _ (by decide +kernel)) ggX10_chain_X2_chainMember
theorem dX10_chain_0 : decode cX10_chain 0 = .ok (.aload_n 0, 1) := by decide +kernel
theorem dX10_chain_1 : decode cX10_chain 1 = .ok (.getfield 26, 3) := by decide +kernel
theorem dX10_chain_4 : decode cX10_chain 4 = .ok (.getfield 116, 3) := by decide +kernel
theorem dX10_chain_7 : decode cX10_chain 7 = .ok (.iload_n 1, 1) := by decide +kernel
theorem dX10_chain_8 : decode cX10_chain 8 = .ok (.invokevirtual 158, 3) := by decide +kernel
theorem dX10_chain_11 : decode cX10_chain 11 = .ok (.ifCond .ne 7, 3) := by decide +kernel
theorem dX10_chain_14 : decode cX10_chain 14 = .ok (.sipush (-1001), 3) := by decide +kernel
theorem dX10_chain_17 : decode cX10_chain 17 = .ok (.ireturn, 1) := by decide +kernel
theorem dX10_chain_18 : decode cX10_chain 18 = .ok (.aload_n 0, 1) := by decide +kernel
theorem dX10_chain_19 : decode cX10_chain 19 = .ok (.getfield 26, 3) := by decide +kernel
theorem dX10_chain_22 : decode cX10_chain 22 = .ok (.getfield 116, 3) := by decide +kernel
theorem dX10_chain_25 : decode cX10_chain 25 = .ok (.iload_n 1, 1) := by decide +kernel
theorem dX10_chain_26 : decode cX10_chain 26 = .ok (.invokevirtual 231, 3) := by decide +kernel
theorem dX10_chain_29 : decode cX10_chain 29 = .ok (.ifCond .ne 7, 3) := by decide +kernel
theorem dX10_chain_32 : decode cX10_chain 32 = .ok (.sipush (-1003), 3) := by decide +kernel
theorem dX10_chain_35 : decode cX10_chain 35 = .ok (.ireturn, 1) := by decide +kernel
theorem dX10_chain_36 : decode cX10_chain 36 = .ok (.iload_n 2, 1) := by decide +kernel
theorem dX10_chain_37 : decode cX10_chain 37 = .ok (.iconst (-1), 1) := by decide +kernel
theorem dX10_chain_38 : decode cX10_chain 38 = .ok (.if_icmp .ne 17, 3) := by decide +kernel
theorem dX10_chain_41 : decode cX10_chain 41 = .ok (.aload_n 0, 1) := by decide +kernel
theorem dX10_chain_42 : decode cX10_chain 42 = .ok (.getfield 26, 3) := by decide +kernel
theorem dX10_chain_45 : decode cX10_chain 45 = .ok (.getfield 116, 3) := by decide +kernel
theorem dX10_chain_48 : decode cX10_chain 48 = .ok (.iload_n 1, 1) := by decide +kernel
theorem dX10_chain_49 : decode cX10_chain 49 = .ok (.invokevirtual 234, 3) := by decide +kernel
theorem dX10_chain_52 : decode cX10_chain 52 = .ok (.goto 15, 3) := by decide +kernel
theorem dX10_chain_55 : decode cX10_chain 55 = .ok (.aload_n 0, 1) := by decide +kernel
theorem dX10_chain_56 : decode cX10_chain 56 = .ok (.getfield 26, 3) := by decide +kernel
theorem dX10_chain_59 : decode cX10_chain 59 = .ok (.getfield 116, 3) := by decide +kernel
theorem dX10_chain_62 : decode cX10_chain 62 = .ok (.iload_n 1, 1) := by decide +kernel
theorem dX10_chain_63 : decode cX10_chain 63 = .ok (.iload_n 2, 1) := by decide +kernel
theorem dX10_chain_64 : decode cX10_chain 64 = .ok (.invokevirtual 237, 3) := by decide +kernel
theorem dX10_chain_67 : decode cX10_chain 67 = .ok (.ireturn, 1) := by decide +kernel
set_option maxRecDepth 20000 in
theorem ggX10_ring_X2_knows : GoodIn wsX10_ring wsX2_knows := goodIn_r _ [7, 8, 46, 47, 48, 49, 50, 51, 52, 53] (by decide +kernel) (by decide +kernel)
set_option maxRecDepth 20000 in
theorem gX10_ring_X2_knows : GoodIn wsX10_ring (wsV RX10 158 RX2 yX2_knows wsX2_knows) := goodIn_app (goodIn_of _ (by decide +kernel)) ggX10_ring_X2_knows
set_option maxRecDepth 20000 in
theorem ggX10_ring_X2_isAstray : GoodIn wsX10_ring wsX2_isAstray := goodIn_r _ [12, 13, 14, 4, 5, 6, 7, 8, 46, 47, 48, 49, 50, 51, 52, 53] (by decide +kernel) (by decide +kernel)
set_option maxRecDepth 20000 in
theorem gX10_ring_X2_isAstray : GoodIn wsX10_ring (wsV RX10 231 RX2 yX2_isAstray wsX2_isAstray) := goodIn_app (goodIn_of _ (by decide +kernel)) ggX10_ring_X2_isAstray
set_option maxRecDepth 20000 in
theorem ggX10_ring_X2_comesRound : GoodIn wsX10_ring wsX2_comesRound := goodIn_r _ [18, 13, 19, 20, 21, 6, 22, 23, 24, 25, 26, 14, 4, 5, 7, 8, 27, 28, 29, 30, 46, 47, 48, 49, 50, 51, 52, 53] (by decide +kernel) (by decide +kernel)
set_option maxRecDepth 20000 in
theorem gX10_ring_X2_comesRound : GoodIn wsX10_ring (wsV RX10 240 RX2 yX2_comesRound wsX2_comesRound) := goodIn_app (goodIn_of _ (by decide +kernel)) ggX10_ring_X2_comesRound
theorem dX10_ring_0 : decode cX10_ring 0 = .ok (.aload_n 0, 1) := by decide +kernel
theorem dX10_ring_1 : decode cX10_ring 1 = .ok (.getfield 26, 3) := by decide +kernel
theorem dX10_ring_4 : decode cX10_ring 4 = .ok (.getfield 116, 3) := by decide +kernel
theorem dX10_ring_7 : decode cX10_ring 7 = .ok (.iload_n 1, 1) := by decide +kernel
theorem dX10_ring_8 : decode cX10_ring 8 = .ok (.invokevirtual 158, 3) := by decide +kernel
theorem dX10_ring_11 : decode cX10_ring 11 = .ok (.ifCond .ne 7, 3) := by decide +kernel
theorem dX10_ring_14 : decode cX10_ring 14 = .ok (.sipush (-1001), 3) := by decide +kernel
theorem dX10_ring_17 : decode cX10_ring 17 = .ok (.ireturn, 1) := by decide +kernel
theorem dX10_ring_18 : decode cX10_ring 18 = .ok (.aload_n 0, 1) := by decide +kernel
theorem dX10_ring_19 : decode cX10_ring 19 = .ok (.getfield 26, 3) := by decide +kernel
theorem dX10_ring_22 : decode cX10_ring 22 = .ok (.getfield 116, 3) := by decide +kernel
theorem dX10_ring_25 : decode cX10_ring 25 = .ok (.iload_n 1, 1) := by decide +kernel
theorem dX10_ring_26 : decode cX10_ring 26 = .ok (.invokevirtual 231, 3) := by decide +kernel
theorem dX10_ring_29 : decode cX10_ring 29 = .ok (.ifCond .ne 7, 3) := by decide +kernel
theorem dX10_ring_32 : decode cX10_ring 32 = .ok (.sipush (-1003), 3) := by decide +kernel
theorem dX10_ring_35 : decode cX10_ring 35 = .ok (.ireturn, 1) := by decide +kernel
theorem dX10_ring_36 : decode cX10_ring 36 = .ok (.aload_n 0, 1) := by decide +kernel
theorem dX10_ring_37 : decode cX10_ring 37 = .ok (.getfield 26, 3) := by decide +kernel
theorem dX10_ring_40 : decode cX10_ring 40 = .ok (.getfield 116, 3) := by decide +kernel
theorem dX10_ring_43 : decode cX10_ring 43 = .ok (.iload_n 1, 1) := by decide +kernel
theorem dX10_ring_44 : decode cX10_ring 44 = .ok (.invokevirtual 240, 3) := by decide +kernel
theorem dX10_ring_47 : decode cX10_ring 47 = .ok (.ifCond .eq 7, 3) := by decide +kernel
theorem dX10_ring_50 : decode cX10_ring 50 = .ok (.iconst 1, 1) := by decide +kernel
theorem dX10_ring_51 : decode cX10_ring 51 = .ok (.goto 4, 3) := by decide +kernel
theorem dX10_ring_54 : decode cX10_ring 54 = .ok (.iconst 0, 1) := by decide +kernel
theorem dX10_ring_55 : decode cX10_ring 55 = .ok (.ireturn, 1) := by decide +kernel
set_option maxRecDepth 20000 in
theorem ggX10_exchanges_X2_isAstray : GoodIn wsX10_exchanges wsX2_isAstray := goodIn_r _ [8, 9, 10, 11, 12, 7, 13, 14, 51, 52, 53, 54, 55, 56, 57, 58] (by decide +kernel) (by decide +kernel)
set_option maxRecDepth 20000 in
theorem gX10_exchanges_X2_isAstray : GoodIn wsX10_exchanges (wsV RX10 231 RX2 yX2_isAstray wsX2_isAstray) := goodIn_app (goodIn_of _ (by decide +kernel)) ggX10_exchanges_X2_isAstray
set_option maxRecDepth 20000 in
theorem ggX10_exchanges_X2_isLeastOfRing : GoodIn wsX10_exchanges wsX2_isLeastOfRing := goodIn_r _ [18, 19, 5, 6, 7, 8, 9, 10, 11, 12, 13, 14, 20, 21, 22, 23, 24, 25, 26, 27, 28, 29, 30, 31, 32, 33, 34, 35, 51, 52, 53, 54, 55, 56, 57, 58] (by decide +kernel) (by decide +kernel)
set_option maxRecDepth 20000 in
theorem gX10_exchanges_X2_isLeastOfRing : GoodIn wsX10_exchanges (wsV RX10 243 RX2 yX2_isLeastOfRing wsX2_isLeastOfRing) := goodIn_app (goodIn_of _ (by decide +kernel)) ggX10_exchanges_X2_isLeastOfRing
theorem dX10_exchanges_0 : decode cX10_exchanges 0 = .ok (.iconst 0, 1) := by decide +kernel
theorem dX10_exchanges_1 : decode cX10_exchanges 1 = .ok (.istore_n 1, 1) := by decide +kernel
theorem dX10_exchanges_2 : decode cX10_exchanges 2 = .ok (.iconst 0, 1) := by decide +kernel
theorem dX10_exchanges_3 : decode cX10_exchanges 3 = .ok (.istore_n 2, 1) := by decide +kernel
theorem dX10_exchanges_4 : decode cX10_exchanges 4 = .ok (.iload_n 2, 1) := by decide +kernel
theorem dX10_exchanges_5 : decode cX10_exchanges 5 = .ok (.aload_n 0, 1) := by decide +kernel
theorem dX10_exchanges_6 : decode cX10_exchanges 6 = .ok (.getfield 26, 3) := by decide +kernel
theorem dX10_exchanges_9 : decode cX10_exchanges 9 = .ok (.getfield 116, 3) := by decide +kernel
theorem dX10_exchanges_12 : decode cX10_exchanges 12 = .ok (.getfield 130, 3) := by decide +kernel
theorem dX10_exchanges_15 : decode cX10_exchanges 15 = .ok (.if_icmp .ge 43, 3) := by decide +kernel
theorem dX10_exchanges_18 : decode cX10_exchanges 18 = .ok (.aload_n 0, 1) := by decide +kernel
theorem dX10_exchanges_19 : decode cX10_exchanges 19 = .ok (.getfield 26, 3) := by decide +kernel
theorem dX10_exchanges_22 : decode cX10_exchanges 22 = .ok (.getfield 116, 3) := by decide +kernel
theorem dX10_exchanges_25 : decode cX10_exchanges 25 = .ok (.iload_n 2, 1) := by decide +kernel
theorem dX10_exchanges_26 : decode cX10_exchanges 26 = .ok (.invokevirtual 231, 3) := by decide +kernel
theorem dX10_exchanges_29 : decode cX10_exchanges 29 = .ok (.ifCond .eq 6, 3) := by decide +kernel
theorem dX10_exchanges_32 : decode cX10_exchanges 32 = .ok (.iinc 1 1, 3) := by decide +kernel
theorem dX10_exchanges_35 : decode cX10_exchanges 35 = .ok (.aload_n 0, 1) := by decide +kernel
theorem dX10_exchanges_36 : decode cX10_exchanges 36 = .ok (.getfield 26, 3) := by decide +kernel
theorem dX10_exchanges_39 : decode cX10_exchanges 39 = .ok (.getfield 116, 3) := by decide +kernel
theorem dX10_exchanges_42 : decode cX10_exchanges 42 = .ok (.iload_n 2, 1) := by decide +kernel
theorem dX10_exchanges_43 : decode cX10_exchanges 43 = .ok (.invokevirtual 243, 3) := by decide +kernel
theorem dX10_exchanges_46 : decode cX10_exchanges 46 = .ok (.ifCond .eq 6, 3) := by decide +kernel
theorem dX10_exchanges_49 : decode cX10_exchanges 49 = .ok (.iinc 1 (-1), 3) := by decide +kernel
theorem dX10_exchanges_52 : decode cX10_exchanges 52 = .ok (.iinc 2 1, 3) := by decide +kernel
theorem dX10_exchanges_55 : decode cX10_exchanges 55 = .ok (.goto (-51), 3) := by decide +kernel
theorem dX10_exchanges_58 : decode cX10_exchanges 58 = .ok (.iload_n 1, 1) := by decide +kernel
theorem dX10_exchanges_59 : decode cX10_exchanges 59 = .ok (.ireturn, 1) := by decide +kernel
set_option maxRecDepth 20000 in
theorem ggX10_wrong_X2_knows : GoodIn wsX10_wrong wsX2_knows := goodIn_r _ [8, 9, 53, 54, 55, 56, 57, 58, 59, 60] (by decide +kernel) (by decide +kernel)
set_option maxRecDepth 20000 in
theorem gX10_wrong_X2_knows : GoodIn wsX10_wrong (wsV RX10 158 RX2 yX2_knows wsX2_knows) := goodIn_app (goodIn_of _ (by decide +kernel)) ggX10_wrong_X2_knows
set_option maxRecDepth 20000 in
theorem ggX10_wrong_X10_within : GoodIn wsX10_wrong wsX10_within := goodIn_r _ [13] (by decide +kernel) (by decide +kernel)
set_option maxRecDepth 20000 in
theorem gX10_wrong_X10_within : GoodIn wsX10_wrong (va_wsS RX10 67 yX10_within wsX10_within) := goodIn_app (goodIn_of _ (by decide +kernel)) ggX10_wrong_X10_within
set_option maxRecDepth 20000 in
theorem ggX10_wrong_X1_firstWrong : GoodIn wsX10_wrong wsX1_firstWrong := goodIn_r _ [18, 19, 20, 21, 17, 22, 23, 24, 25, 26, 27, 28, 29, 30, 31, 32, 11, 12, 13, 33, 34, 35, 36, 61, 62] (by decide +kernel) (by decide +kernel)
set_option maxRecDepth 20000 in
theorem gX10_wrong_X1_firstWrong : GoodIn wsX10_wrong (wsV RX10 246 RX1 yX1_firstWrong wsX1_firstWrong) := goodIn_app (goodIn_of _ (by decide +kernel)) ggX10_wrong_X1_firstWrong
set_option maxRecDepth 20000 in
theorem ggX10_wrong_X1_factOf : GoodIn wsX10_wrong wsX1_factOf := goodIn_r _ [27, 28, 29, 30, 31, 17, 32, 23, 11, 12, 13, 61, 62] (by decide +kernel) (by decide +kernel)
set_option maxRecDepth 20000 in
theorem gX10_wrong_X1_factOf : GoodIn wsX10_wrong (wsV RX10 228 RX1 yX1_factOf wsX1_factOf) := goodIn_app (goodIn_of _ (by decide +kernel)) ggX10_wrong_X1_factOf
theorem dX10_wrong_0 : decode cX10_wrong 0 = .ok (.aload_n 0, 1) := by decide +kernel
theorem dX10_wrong_1 : decode cX10_wrong 1 = .ok (.getfield 26, 3) := by decide +kernel
theorem dX10_wrong_4 : decode cX10_wrong 4 = .ok (.getfield 116, 3) := by decide +kernel
theorem dX10_wrong_7 : decode cX10_wrong 7 = .ok (.iload_n 1, 1) := by decide +kernel
theorem dX10_wrong_8 : decode cX10_wrong 8 = .ok (.invokevirtual 158, 3) := by decide +kernel
theorem dX10_wrong_11 : decode cX10_wrong 11 = .ok (.ifCond .ne 7, 3) := by decide +kernel
theorem dX10_wrong_14 : decode cX10_wrong 14 = .ok (.sipush (-1001), 3) := by decide +kernel
theorem dX10_wrong_17 : decode cX10_wrong 17 = .ok (.ireturn, 1) := by decide +kernel
theorem dX10_wrong_18 : decode cX10_wrong 18 = .ok (.iload_n 2, 1) := by decide +kernel
theorem dX10_wrong_19 : decode cX10_wrong 19 = .ok (.iconst 0, 1) := by decide +kernel
theorem dX10_wrong_20 : decode cX10_wrong 20 = .ok (.iconst 1, 1) := by decide +kernel
theorem dX10_wrong_21 : decode cX10_wrong 21 = .ok (.invokestatic 67, 3) := by decide +kernel
theorem dX10_wrong_24 : decode cX10_wrong 24 = .ok (.ifCond .ne 7, 3) := by decide +kernel
theorem dX10_wrong_27 : decode cX10_wrong 27 = .ok (.sipush (-1002), 3) := by decide +kernel
theorem dX10_wrong_30 : decode cX10_wrong 30 = .ok (.ireturn, 1) := by decide +kernel
theorem dX10_wrong_31 : decode cX10_wrong 31 = .ok (.aload_n 0, 1) := by decide +kernel
theorem dX10_wrong_32 : decode cX10_wrong 32 = .ok (.getfield 26, 3) := by decide +kernel
theorem dX10_wrong_35 : decode cX10_wrong 35 = .ok (.getfield 78, 3) := by decide +kernel
theorem dX10_wrong_38 : decode cX10_wrong 38 = .ok (.iload_n 1, 1) := by decide +kernel
theorem dX10_wrong_39 : decode cX10_wrong 39 = .ok (.invokevirtual 246, 3) := by decide +kernel
theorem dX10_wrong_42 : decode cX10_wrong 42 = .ok (.istore_n 3, 1) := by decide +kernel
theorem dX10_wrong_43 : decode cX10_wrong 43 = .ok (.iload_n 2, 1) := by decide +kernel
theorem dX10_wrong_44 : decode cX10_wrong 44 = .ok (.ifCond .ne 18, 3) := by decide +kernel
theorem dX10_wrong_47 : decode cX10_wrong 47 = .ok (.aload_n 0, 1) := by decide +kernel
theorem dX10_wrong_48 : decode cX10_wrong 48 = .ok (.getfield 26, 3) := by decide +kernel
theorem dX10_wrong_51 : decode cX10_wrong 51 = .ok (.getfield 78, 3) := by decide +kernel
theorem dX10_wrong_54 : decode cX10_wrong 54 = .ok (.iload_n 3, 1) := by decide +kernel
theorem dX10_wrong_55 : decode cX10_wrong 55 = .ok (.iconst 1, 1) := by decide +kernel
theorem dX10_wrong_56 : decode cX10_wrong 56 = .ok (.invokevirtual 228, 3) := by decide +kernel
theorem dX10_wrong_59 : decode cX10_wrong 59 = .ok (.goto 4, 3) := by decide +kernel
theorem dX10_wrong_62 : decode cX10_wrong 62 = .ok (.iload_n 3, 1) := by decide +kernel
theorem dX10_wrong_63 : decode cX10_wrong 63 = .ok (.ireturn, 1) := by decide +kernel
set_option maxRecDepth 20000 in
theorem ggX10_rush_X10_allHang : GoodIn wsX10_rush wsX10_allHang := goodIn_r _ [9, 2, 3, 10, 11, 12, 13, 14, 15, 16, 17, 18, 19, 20, 21, 79, 80, 81, 82, 83, 84, 85, 86, 87, 88, 89, 90, 91, 92, 93, 94, 95, 96, 97, 98, 99, 100, 101] (by decide +kernel) (by decide +kernel)
set_option maxRecDepth 20000 in
theorem gX10_rush_X10_allHang : GoodIn wsX10_rush (wsV RX10 249 RX10 yX10_allHang wsX10_allHang) := goodIn_app (goodIn_of _ (by decide +kernel)) ggX10_rush_X10_allHang
set_option maxRecDepth 20000 in
theorem ggX10_rush_X10_within : GoodIn wsX10_rush wsX10_within := goodIn_r _ [24] (by decide +kernel) (by decide +kernel)
set_option maxRecDepth 20000 in
theorem gX10_rush_X10_within : GoodIn wsX10_rush (va_wsS RX10 67 yX10_within wsX10_within) := goodIn_app (goodIn_of _ (by decide +kernel)) ggX10_rush_X10_within
set_option maxRecDepth 20000 in
theorem ggX10_rush_X9_load : GoodIn wsX10_rush wsX9_load := goodIn_r _ [29, 30, 31, 32, 33, 34, 35, 36, 37, 38, 39, 40, 41, 42, 43, 44, 45, 46, 47, 48, 49, 50, 102, 103, 104, 105, 106, 107, 108, 109, 110, 111, 112, 113, 114, 115, 116, 117, 118, 119, 120, 94, 95, 96, 97, 98, 99, 100, 101] (by decide +kernel) (by decide +kernel)
set_option maxRecDepth 20000 in
theorem gX10_rush_X9_load : GoodIn wsX10_rush (wsV RX10 252 RX9 yX9_load wsX9_load) := goodIn_app (goodIn_of _ (by decide +kernel)) ggX10_rush_X9_load
set_option maxRecDepth 20000 in
theorem ggX10_rush_X9_serveFrom : GoodIn wsX10_rush wsX9_serveFrom := goodIn_r _ [54, 30, 55, 56, 57, 28, 58, 59, 39, 34, 60, 61, 62, 63, 64, 65, 66, 37, 32, 23, 8, 24, 102, 103, 104, 105, 106, 107, 108, 109, 110, 111, 112, 113] (by decide +kernel) (by decide +kernel)
set_option maxRecDepth 20000 in
theorem gX10_rush_X9_serveFrom : GoodIn wsX10_rush (wsV RX10 256 RX9 yX9_serveFrom wsX9_serveFrom) := goodIn_app (goodIn_of _ (by decide +kernel)) ggX10_rush_X9_serveFrom
set_option maxRecDepth 20000 in
theorem ggX10_rush_X9_sumOfWaits : GoodIn wsX10_rush wsX9_sumOfWaits := goodIn_r _ [70, 60, 30, 102, 103, 104, 105, 106, 107, 108, 109, 110, 111, 112, 113] (by decide +kernel) (by decide +kernel)
set_option maxRecDepth 20000 in
theorem gX10_rush_X9_sumOfWaits : GoodIn wsX10_rush (wsV RX10 259 RX9 yX9_sumOfWaits wsX9_sumOfWaits) := goodIn_app (goodIn_of _ (by decide +kernel)) ggX10_rush_X9_sumOfWaits
set_option maxRecDepth 20000 in
theorem ggX10_rush_X9_greatestWait : GoodIn wsX10_rush wsX9_greatestWait := goodIn_r _ [74, 61, 30, 102, 103, 104, 105, 106, 107, 108, 109, 110, 111, 112, 113] (by decide +kernel) (by decide +kernel)
set_option maxRecDepth 20000 in
theorem gX10_rush_X9_greatestWait : GoodIn wsX10_rush (wsV RX10 262 RX9 yX9_greatestWait wsX9_greatestWait) := goodIn_app (goodIn_of _ (by decide +kernel)) ggX10_rush_X9_greatestWait
set_option maxRecDepth 20000 in
theorem ggX10_rush_X9_sumOfTips : GoodIn wsX10_rush wsX9_sumOfTips := goodIn_r _ [78, 66, 30, 102, 103, 104, 105, 106, 107, 108, 109, 110, 111, 112, 113] (by decide +kernel) (by decide +kernel)
set_option maxRecDepth 20000 in
theorem gX10_rush_X9_sumOfTips : GoodIn wsX10_rush (wsV RX10 265 RX9 yX9_sumOfTips wsX9_sumOfTips) := goodIn_app (goodIn_of _ (by decide +kernel)) ggX10_rush_X9_sumOfTips
theorem dX10_rush_0 : decode cX10_rush 0 = .ok (.aload_n 0, 1) := by decide +kernel
theorem dX10_rush_1 : decode cX10_rush 1 = .ok (.iload_n 1, 1) := by decide +kernel
theorem dX10_rush_2 : decode cX10_rush 2 = .ok (.invokevirtual 249, 3) := by decide +kernel
theorem dX10_rush_5 : decode cX10_rush 5 = .ok (.ifCond .ne 7, 3) := by decide +kernel
theorem dX10_rush_8 : decode cX10_rush 8 = .ok (.sipush (-1001), 3) := by decide +kernel
theorem dX10_rush_11 : decode cX10_rush 11 = .ok (.ireturn, 1) := by decide +kernel
theorem dX10_rush_12 : decode cX10_rush 12 = .ok (.iload_n 2, 1) := by decide +kernel
theorem dX10_rush_13 : decode cX10_rush 13 = .ok (.iconst 1, 1) := by decide +kernel
theorem dX10_rush_14 : decode cX10_rush 14 = .ok (.iconst 4, 1) := by decide +kernel
theorem dX10_rush_15 : decode cX10_rush 15 = .ok (.invokestatic 67, 3) := by decide +kernel
theorem dX10_rush_18 : decode cX10_rush 18 = .ok (.ifCond .eq 12, 3) := by decide +kernel
theorem dX10_rush_21 : decode cX10_rush 21 = .ok (.iload_n 3, 1) := by decide +kernel
theorem dX10_rush_22 : decode cX10_rush 22 = .ok (.iconst 0, 1) := by decide +kernel
theorem dX10_rush_23 : decode cX10_rush 23 = .ok (.iconst 2, 1) := by decide +kernel
theorem dX10_rush_24 : decode cX10_rush 24 = .ok (.invokestatic 67, 3) := by decide +kernel
theorem dX10_rush_27 : decode cX10_rush 27 = .ok (.ifCond .ne 7, 3) := by decide +kernel
theorem dX10_rush_30 : decode cX10_rush 30 = .ok (.sipush (-1002), 3) := by decide +kernel
theorem dX10_rush_33 : decode cX10_rush 33 = .ok (.ireturn, 1) := by decide +kernel
theorem dX10_rush_34 : decode cX10_rush 34 = .ok (.aload_n 0, 1) := by decide +kernel
theorem dX10_rush_35 : decode cX10_rush 35 = .ok (.getfield 46, 3) := by decide +kernel
theorem dX10_rush_38 : decode cX10_rush 38 = .ok (.iload_n 1, 1) := by decide +kernel
theorem dX10_rush_39 : decode cX10_rush 39 = .ok (.aload_n 0, 1) := by decide +kernel
theorem dX10_rush_40 : decode cX10_rush 40 = .ok (.getfield 26, 3) := by decide +kernel
theorem dX10_rush_43 : decode cX10_rush 43 = .ok (.getfield 116, 3) := by decide +kernel
theorem dX10_rush_46 : decode cX10_rush 46 = .ok (.aload_n 0, 1) := by decide +kernel
theorem dX10_rush_47 : decode cX10_rush 47 = .ok (.getfield 10, 3) := by decide +kernel
theorem dX10_rush_50 : decode cX10_rush 50 = .ok (.invokevirtual 252, 3) := by decide +kernel
theorem dX10_rush_53 : decode cX10_rush 53 = .ok (.aload_n 0, 1) := by decide +kernel
theorem dX10_rush_54 : decode cX10_rush 54 = .ok (.getfield 46, 3) := by decide +kernel
theorem dX10_rush_57 : decode cX10_rush 57 = .ok (.iconst 0, 1) := by decide +kernel
theorem dX10_rush_58 : decode cX10_rush 58 = .ok (.iload_n 2, 1) := by decide +kernel
theorem dX10_rush_59 : decode cX10_rush 59 = .ok (.invokevirtual 256, 3) := by decide +kernel
theorem dX10_rush_62 : decode cX10_rush 62 = .ok (.iload_n 3, 1) := by decide +kernel
theorem dX10_rush_63 : decode cX10_rush 63 = .ok (.lookupswitch 41 #[(0, 25), (1, 33)], 25) := by decide +kernel
theorem dX10_rush_88 : decode cX10_rush 88 = .ok (.aload_n 0, 1) := by decide +kernel
theorem dX10_rush_89 : decode cX10_rush 89 = .ok (.getfield 46, 3) := by decide +kernel
theorem dX10_rush_92 : decode cX10_rush 92 = .ok (.invokevirtual 259, 3) := by decide +kernel
theorem dX10_rush_95 : decode cX10_rush 95 = .ok (.ireturn, 1) := by decide +kernel
theorem dX10_rush_96 : decode cX10_rush 96 = .ok (.aload_n 0, 1) := by decide +kernel
theorem dX10_rush_97 : decode cX10_rush 97 = .ok (.getfield 46, 3) := by decide +kernel
theorem dX10_rush_100 : decode cX10_rush 100 = .ok (.invokevirtual 262, 3) := by decide +kernel
theorem dX10_rush_103 : decode cX10_rush 103 = .ok (.ireturn, 1) := by decide +kernel
theorem dX10_rush_104 : decode cX10_rush 104 = .ok (.aload_n 0, 1) := by decide +kernel
theorem dX10_rush_105 : decode cX10_rush 105 = .ok (.getfield 46, 3) := by decide +kernel
theorem dX10_rush_108 : decode cX10_rush 108 = .ok (.invokevirtual 265, 3) := by decide +kernel
theorem dX10_rush_111 : decode cX10_rush 111 = .ok (.ireturn, 1) := by decide +kernel
set_option maxRecDepth 20000 in
theorem ggX10_bestRow_X10_allHang : GoodIn wsX10_bestRow wsX10_allHang := goodIn_r _ [10, 2, 3, 11, 12, 13, 14, 15, 16, 17, 18, 19, 20, 21, 22, 106, 107, 108, 109, 110, 111, 112, 113, 114, 115, 116, 117, 118, 119, 120, 133, 134, 135, 136, 137, 138, 139, 140] (by decide +kernel) (by decide +kernel)
set_option maxRecDepth 20000 in
theorem gX10_bestRow_X10_allHang : GoodIn wsX10_bestRow (wsV RX10 249 RX10 yX10_allHang wsX10_allHang) := goodIn_app (goodIn_of _ (by decide +kernel)) ggX10_bestRow_X10_allHang
set_option maxRecDepth 20000 in
theorem ggX10_bestRow_X10_within : GoodIn wsX10_bestRow wsX10_within := goodIn_r _ [25] (by decide +kernel) (by decide +kernel)
set_option maxRecDepth 20000 in
theorem gX10_bestRow_X10_within : GoodIn wsX10_bestRow (va_wsS RX10 67 yX10_within wsX10_within) := goodIn_app (goodIn_of _ (by decide +kernel)) ggX10_bestRow_X10_within
set_option maxRecDepth 20000 in
theorem ggX10_bestRow_J6_bitCount_0f7a4 : GoodIn wsX10_bestRow wsJ6_bitCount_0f7a4 := goodIn_r _ [29, 30, 31, 32] (by decide +kernel) (by decide +kernel)
set_option maxRecDepth 20000 in
theorem gX10_bestRow_J6_bitCount_0f7a4 : GoodIn wsX10_bestRow (va_wsS RX10 268 yJ6_bitCount_0f7a4 wsJ6_bitCount_0f7a4) := goodIn_app (goodIn_of _ (by decide +kernel)) ggX10_bestRow_J6_bitCount_0f7a4
set_option maxRecDepth 20000 in
theorem ggX10_bestRow_X9_load : GoodIn wsX10_bestRow wsX9_load := goodIn_r _ [37, 38, 39, 40, 41, 42, 43, 44, 45, 46, 47, 48, 49, 50, 51, 52, 53, 54, 55, 56, 57, 58, 121, 122, 123, 124, 125, 126, 127, 128, 129, 130, 131, 132, 141, 142, 143, 144, 145, 146, 147, 133, 134, 135, 136, 137, 138, 139, 140] (by decide +kernel) (by decide +kernel)
set_option maxRecDepth 20000 in
theorem gX10_bestRow_X9_load : GoodIn wsX10_bestRow (wsV RX10 252 RX9 yX9_load wsX9_load) := goodIn_app (goodIn_of _ (by decide +kernel)) ggX10_bestRow_X9_load
set_option maxRecDepth 20000 in
theorem ggX10_bestRow_X9_findBest : GoodIn wsX10_bestRow wsX9_findBest := goodIn_r _ [62, 63, 64, 65, 66, 67, 36, 68, 38, 69, 70, 71, 72, 73, 47, 42, 74, 75, 76, 77, 78, 79, 80, 45, 40, 24, 9, 25, 81, 82, 83, 84, 85, 86, 87, 88, 89, 90, 91, 92, 93, 94, 95, 96, 97, 98, 99, 100, 101, 121, 122, 123, 124, 125, 126, 127, 128, 129, 130, 131, 132] (by decide +kernel) (by decide +kernel)
set_option maxRecDepth 20000 in
theorem gX10_bestRow_X9_findBest : GoodIn wsX10_bestRow (wsV RX10 273 RX9 yX9_findBest wsX9_findBest) := goodIn_app (goodIn_of _ (by decide +kernel)) ggX10_bestRow_X9_findBest
set_option maxRecDepth 20000 in
theorem ggX10_bestRow_X9_bestMember : GoodIn wsX10_bestRow wsX9_bestMember := goodIn_r _ [105, 38, 85, 121, 122, 123, 124, 125, 126, 127, 128, 129, 130, 131, 132] (by decide +kernel) (by decide +kernel)
set_option maxRecDepth 20000 in
theorem gX10_bestRow_X9_bestMember : GoodIn wsX10_bestRow (wsV RX10 280 RX9 yX9_bestMember wsX9_bestMember) := goodIn_app (goodIn_of _ (by decide +kernel)) ggX10_bestRow_X9_bestMember
theorem dX10_bestRow_0 : decode cX10_bestRow 0 = .ok (.aload_n 0, 1) := by decide +kernel
theorem dX10_bestRow_1 : decode cX10_bestRow 1 = .ok (.iload_n 1, 1) := by decide +kernel
theorem dX10_bestRow_2 : decode cX10_bestRow 2 = .ok (.invokevirtual 249, 3) := by decide +kernel
theorem dX10_bestRow_5 : decode cX10_bestRow 5 = .ok (.ifCond .ne 7, 3) := by decide +kernel
theorem dX10_bestRow_8 : decode cX10_bestRow 8 = .ok (.sipush (-1001), 3) := by decide +kernel
theorem dX10_bestRow_11 : decode cX10_bestRow 11 = .ok (.ireturn, 1) := by decide +kernel
theorem dX10_bestRow_12 : decode cX10_bestRow 12 = .ok (.iload_n 2, 1) := by decide +kernel
theorem dX10_bestRow_13 : decode cX10_bestRow 13 = .ok (.iconst 1, 1) := by decide +kernel
theorem dX10_bestRow_14 : decode cX10_bestRow 14 = .ok (.iconst 4, 1) := by decide +kernel
theorem dX10_bestRow_15 : decode cX10_bestRow 15 = .ok (.invokestatic 67, 3) := by decide +kernel
theorem dX10_bestRow_18 : decode cX10_bestRow 18 = .ok (.ifCond .ne 7, 3) := by decide +kernel
theorem dX10_bestRow_21 : decode cX10_bestRow 21 = .ok (.sipush (-1002), 3) := by decide +kernel
theorem dX10_bestRow_24 : decode cX10_bestRow 24 = .ok (.ireturn, 1) := by decide +kernel
theorem dX10_bestRow_25 : decode cX10_bestRow 25 = .ok (.iload_n 1, 1) := by decide +kernel
theorem dX10_bestRow_26 : decode cX10_bestRow 26 = .ok (.invokestatic 268, 3) := by decide +kernel
theorem dX10_bestRow_29 : decode cX10_bestRow 29 = .ok (.bipush 7, 2) := by decide +kernel
theorem dX10_bestRow_31 : decode cX10_bestRow 31 = .ok (.if_icmp .le 7, 3) := by decide +kernel
theorem dX10_bestRow_34 : decode cX10_bestRow 34 = .ok (.sipush (-1003), 3) := by decide +kernel
theorem dX10_bestRow_37 : decode cX10_bestRow 37 = .ok (.ireturn, 1) := by decide +kernel
theorem dX10_bestRow_38 : decode cX10_bestRow 38 = .ok (.aload_n 0, 1) := by decide +kernel
theorem dX10_bestRow_39 : decode cX10_bestRow 39 = .ok (.getfield 46, 3) := by decide +kernel
theorem dX10_bestRow_42 : decode cX10_bestRow 42 = .ok (.iload_n 1, 1) := by decide +kernel
theorem dX10_bestRow_43 : decode cX10_bestRow 43 = .ok (.aload_n 0, 1) := by decide +kernel
theorem dX10_bestRow_44 : decode cX10_bestRow 44 = .ok (.getfield 26, 3) := by decide +kernel
theorem dX10_bestRow_47 : decode cX10_bestRow 47 = .ok (.getfield 116, 3) := by decide +kernel
theorem dX10_bestRow_50 : decode cX10_bestRow 50 = .ok (.aload_n 0, 1) := by decide +kernel
theorem dX10_bestRow_51 : decode cX10_bestRow 51 = .ok (.getfield 10, 3) := by decide +kernel
theorem dX10_bestRow_54 : decode cX10_bestRow 54 = .ok (.invokevirtual 252, 3) := by decide +kernel
theorem dX10_bestRow_57 : decode cX10_bestRow 57 = .ok (.aload_n 0, 1) := by decide +kernel
theorem dX10_bestRow_58 : decode cX10_bestRow 58 = .ok (.getfield 46, 3) := by decide +kernel
theorem dX10_bestRow_61 : decode cX10_bestRow 61 = .ok (.iload_n 2, 1) := by decide +kernel
theorem dX10_bestRow_62 : decode cX10_bestRow 62 = .ok (.invokevirtual 273, 3) := by decide +kernel
theorem dX10_bestRow_65 : decode cX10_bestRow 65 = .ok (.iload_n 3, 1) := by decide +kernel
theorem dX10_bestRow_66 : decode cX10_bestRow 66 = .ok (.iconst (-1), 1) := by decide +kernel
theorem dX10_bestRow_67 : decode cX10_bestRow 67 = .ok (.if_icmp .ne 13, 3) := by decide +kernel
theorem dX10_bestRow_70 : decode cX10_bestRow 70 = .ok (.aload_n 0, 1) := by decide +kernel
theorem dX10_bestRow_71 : decode cX10_bestRow 71 = .ok (.getfield 46, 3) := by decide +kernel
theorem dX10_bestRow_74 : decode cX10_bestRow 74 = .ok (.getfield 277, 3) := by decide +kernel
theorem dX10_bestRow_77 : decode cX10_bestRow 77 = .ok (.goto 11, 3) := by decide +kernel
theorem dX10_bestRow_80 : decode cX10_bestRow 80 = .ok (.aload_n 0, 1) := by decide +kernel
theorem dX10_bestRow_81 : decode cX10_bestRow 81 = .ok (.getfield 46, 3) := by decide +kernel
theorem dX10_bestRow_84 : decode cX10_bestRow 84 = .ok (.iload_n 3, 1) := by decide +kernel
theorem dX10_bestRow_85 : decode cX10_bestRow 85 = .ok (.invokevirtual 280, 3) := by decide +kernel
theorem dX10_bestRow_88 : decode cX10_bestRow 88 = .ok (.ireturn, 1) := by decide +kernel
set_option maxRecDepth 20000 in
theorem ggX10_wanted_X10_allHang : GoodIn wsX10_wanted wsX10_allHang := goodIn_r _ [9, 2, 3, 10, 11, 12, 13, 14, 15, 16, 17, 18, 19, 20, 21, 71, 72, 73, 74, 75, 76, 77, 78, 79, 80, 81, 82, 83, 84, 85, 86, 87, 88, 89, 90, 91, 92, 93] (by decide +kernel) (by decide +kernel)
set_option maxRecDepth 20000 in
theorem gX10_wanted_X10_allHang : GoodIn wsX10_wanted (wsV RX10 249 RX10 yX10_allHang wsX10_allHang) := goodIn_app (goodIn_of _ (by decide +kernel)) ggX10_wanted_X10_allHang
set_option maxRecDepth 20000 in
theorem ggX10_wanted_X10_within : GoodIn wsX10_wanted wsX10_within := goodIn_r _ [24] (by decide +kernel) (by decide +kernel)
set_option maxRecDepth 20000 in
theorem gX10_wanted_X10_within : GoodIn wsX10_wanted (va_wsS RX10 67 yX10_within wsX10_within) := goodIn_app (goodIn_of _ (by decide +kernel)) ggX10_wanted_X10_within
set_option maxRecDepth 20000 in
theorem ggX10_wanted_X9_load : GoodIn wsX10_wanted wsX9_load := goodIn_r _ [29, 30, 31, 32, 33, 34, 35, 36, 37, 38, 39, 40, 41, 42, 43, 44, 45, 46, 47, 48, 49, 50, 94, 95, 96, 97, 98, 99, 100, 101, 102, 103, 104, 105, 106, 107, 108, 109, 110, 111, 112, 86, 87, 88, 89, 90, 91, 92, 93] (by decide +kernel) (by decide +kernel)
set_option maxRecDepth 20000 in
theorem gX10_wanted_X9_load : GoodIn wsX10_wanted (wsV RX10 252 RX9 yX9_load wsX9_load) := goodIn_app (goodIn_of _ (by decide +kernel)) ggX10_wanted_X9_load
set_option maxRecDepth 20000 in
theorem ggX10_wanted_X9_serveFrom : GoodIn wsX10_wanted wsX9_serveFrom := goodIn_r _ [54, 30, 55, 56, 57, 28, 58, 59, 39, 34, 60, 61, 62, 63, 64, 65, 66, 37, 32, 23, 8, 24, 94, 95, 96, 97, 98, 99, 100, 101, 102, 103, 104, 105] (by decide +kernel) (by decide +kernel)
set_option maxRecDepth 20000 in
theorem gX10_wanted_X9_serveFrom : GoodIn wsX10_wanted (wsV RX10 256 RX9 yX9_serveFrom wsX9_serveFrom) := goodIn_app (goodIn_of _ (by decide +kernel)) ggX10_wanted_X9_serveFrom
set_option maxRecDepth 20000 in
theorem ggX10_wanted_X9_greatestWait : GoodIn wsX10_wanted wsX9_greatestWait := goodIn_r _ [70, 61, 30, 94, 95, 96, 97, 98, 99, 100, 101, 102, 103, 104, 105] (by decide +kernel) (by decide +kernel)
set_option maxRecDepth 20000 in
theorem gX10_wanted_X9_greatestWait : GoodIn wsX10_wanted (wsV RX10 262 RX9 yX9_greatestWait wsX9_greatestWait) := goodIn_app (goodIn_of _ (by decide +kernel)) ggX10_wanted_X9_greatestWait
theorem dX10_wanted_0 : decode cX10_wanted 0 = .ok (.aload_n 0, 1) := by decide +kernel
theorem dX10_wanted_1 : decode cX10_wanted 1 = .ok (.iload_n 1, 1) := by decide +kernel
theorem dX10_wanted_2 : decode cX10_wanted 2 = .ok (.invokevirtual 249, 3) := by decide +kernel
theorem dX10_wanted_5 : decode cX10_wanted 5 = .ok (.ifCond .ne 7, 3) := by decide +kernel
theorem dX10_wanted_8 : decode cX10_wanted 8 = .ok (.sipush (-1001), 3) := by decide +kernel
theorem dX10_wanted_11 : decode cX10_wanted 11 = .ok (.ireturn, 1) := by decide +kernel
theorem dX10_wanted_12 : decode cX10_wanted 12 = .ok (.iload_n 2, 1) := by decide +kernel
theorem dX10_wanted_13 : decode cX10_wanted 13 = .ok (.iconst 0, 1) := by decide +kernel
theorem dX10_wanted_14 : decode cX10_wanted 14 = .ok (.sipush 9999, 3) := by decide +kernel
theorem dX10_wanted_17 : decode cX10_wanted 17 = .ok (.invokestatic 67, 3) := by decide +kernel
theorem dX10_wanted_20 : decode cX10_wanted 20 = .ok (.ifCond .ne 7, 3) := by decide +kernel
theorem dX10_wanted_23 : decode cX10_wanted 23 = .ok (.sipush (-1002), 3) := by decide +kernel
theorem dX10_wanted_26 : decode cX10_wanted 26 = .ok (.ireturn, 1) := by decide +kernel
theorem dX10_wanted_27 : decode cX10_wanted 27 = .ok (.aload_n 0, 1) := by decide +kernel
theorem dX10_wanted_28 : decode cX10_wanted 28 = .ok (.getfield 46, 3) := by decide +kernel
theorem dX10_wanted_31 : decode cX10_wanted 31 = .ok (.iload_n 1, 1) := by decide +kernel
theorem dX10_wanted_32 : decode cX10_wanted 32 = .ok (.aload_n 0, 1) := by decide +kernel
theorem dX10_wanted_33 : decode cX10_wanted 33 = .ok (.getfield 26, 3) := by decide +kernel
theorem dX10_wanted_36 : decode cX10_wanted 36 = .ok (.getfield 116, 3) := by decide +kernel
theorem dX10_wanted_39 : decode cX10_wanted 39 = .ok (.aload_n 0, 1) := by decide +kernel
theorem dX10_wanted_40 : decode cX10_wanted 40 = .ok (.getfield 10, 3) := by decide +kernel
theorem dX10_wanted_43 : decode cX10_wanted 43 = .ok (.invokevirtual 252, 3) := by decide +kernel
theorem dX10_wanted_46 : decode cX10_wanted 46 = .ok (.iconst 1, 1) := by decide +kernel
theorem dX10_wanted_47 : decode cX10_wanted 47 = .ok (.istore_n 3, 1) := by decide +kernel
theorem dX10_wanted_48 : decode cX10_wanted 48 = .ok (.iload_n 3, 1) := by decide +kernel
theorem dX10_wanted_49 : decode cX10_wanted 49 = .ok (.iconst 4, 1) := by decide +kernel
theorem dX10_wanted_50 : decode cX10_wanted 50 = .ok (.if_icmp .gt 31, 3) := by decide +kernel
theorem dX10_wanted_53 : decode cX10_wanted 53 = .ok (.aload_n 0, 1) := by decide +kernel
theorem dX10_wanted_54 : decode cX10_wanted 54 = .ok (.getfield 46, 3) := by decide +kernel
theorem dX10_wanted_57 : decode cX10_wanted 57 = .ok (.iconst 0, 1) := by decide +kernel
theorem dX10_wanted_58 : decode cX10_wanted 58 = .ok (.iload_n 3, 1) := by decide +kernel
theorem dX10_wanted_59 : decode cX10_wanted 59 = .ok (.invokevirtual 256, 3) := by decide +kernel
theorem dX10_wanted_62 : decode cX10_wanted 62 = .ok (.aload_n 0, 1) := by decide +kernel
theorem dX10_wanted_63 : decode cX10_wanted 63 = .ok (.getfield 46, 3) := by decide +kernel
theorem dX10_wanted_66 : decode cX10_wanted 66 = .ok (.invokevirtual 262, 3) := by decide +kernel
theorem dX10_wanted_69 : decode cX10_wanted 69 = .ok (.iload_n 2, 1) := by decide +kernel
theorem dX10_wanted_70 : decode cX10_wanted 70 = .ok (.if_icmp .gt 5, 3) := by decide +kernel
theorem dX10_wanted_73 : decode cX10_wanted 73 = .ok (.iload_n 3, 1) := by decide +kernel
theorem dX10_wanted_74 : decode cX10_wanted 74 = .ok (.ireturn, 1) := by decide +kernel
theorem dX10_wanted_75 : decode cX10_wanted 75 = .ok (.iinc 3 1, 3) := by decide +kernel
theorem dX10_wanted_78 : decode cX10_wanted 78 = .ok (.goto (-30), 3) := by decide +kernel
theorem dX10_wanted_81 : decode cX10_wanted 81 = .ok (.iconst (-1), 1) := by decide +kernel
theorem dX10_wanted_82 : decode cX10_wanted 82 = .ok (.ireturn, 1) := by decide +kernel
set_option maxRecDepth 20000 in
theorem ggX10_claim_X2_knows : GoodIn wsX10_claim wsX2_knows := goodIn_r _ [11, 12, 45, 46, 47, 48, 49, 50, 51, 52] (by decide +kernel) (by decide +kernel)
set_option maxRecDepth 20000 in
theorem gX10_claim_X2_knows : GoodIn wsX10_claim (wsV RX10 158 RX2 yX2_knows wsX2_knows) := goodIn_app (goodIn_of _ (by decide +kernel)) ggX10_claim_X2_knows
set_option maxRecDepth 20000 in
theorem ggX10_claim_X10_within : GoodIn wsX10_claim wsX10_within := goodIn_r _ [16] (by decide +kernel) (by decide +kernel)
set_option maxRecDepth 20000 in
theorem gX10_claim_X10_within : GoodIn wsX10_claim (va_wsS RX10 67 yX10_within wsX10_within) := goodIn_app (goodIn_of _ (by decide +kernel)) ggX10_claim_X10_within
set_option maxRecDepth 20000 in
theorem ggX10_claim_X0_isOf : GoodIn wsX10_claim wsX0_isOf := goodIn_r _ [21, 22, 23, 53, 54, 55, 56] (by decide +kernel) (by decide +kernel)
set_option maxRecDepth 20000 in
theorem gX10_claim_X0_isOf : GoodIn wsX10_claim (wsV RX10 283 RX0 yX0_isOf wsX0_isOf) := goodIn_app (goodIn_of _ (by decide +kernel)) ggX10_claim_X0_isOf
set_option maxRecDepth 20000 in
theorem ggX10_claim_X0_add : GoodIn wsX10_claim wsX0_add := goodIn_r _ [27, 22, 23, 28, 29, 53, 54, 55, 56] (by decide +kernel) (by decide +kernel)
set_option maxRecDepth 20000 in
theorem gX10_claim_X0_add : GoodIn wsX10_claim (wsV RX10 286 RX0 yX0_add wsX0_add) := goodIn_app (goodIn_of _ (by decide +kernel)) ggX10_claim_X0_add
theorem dX10_claim_0 : decode cX10_claim 0 = .ok (.aload_n 0, 1) := by decide +kernel
theorem dX10_claim_1 : decode cX10_claim 1 = .ok (.getfield 26, 3) := by decide +kernel
theorem dX10_claim_4 : decode cX10_claim 4 = .ok (.getfield 116, 3) := by decide +kernel
theorem dX10_claim_7 : decode cX10_claim 7 = .ok (.iload_n 1, 1) := by decide +kernel
theorem dX10_claim_8 : decode cX10_claim 8 = .ok (.invokevirtual 158, 3) := by decide +kernel
theorem dX10_claim_11 : decode cX10_claim 11 = .ok (.ifCond .ne 7, 3) := by decide +kernel
theorem dX10_claim_14 : decode cX10_claim 14 = .ok (.sipush (-1001), 3) := by decide +kernel
theorem dX10_claim_17 : decode cX10_claim 17 = .ok (.ireturn, 1) := by decide +kernel
theorem dX10_claim_18 : decode cX10_claim 18 = .ok (.iload_n 2, 1) := by decide +kernel
theorem dX10_claim_19 : decode cX10_claim 19 = .ok (.iconst 0, 1) := by decide +kernel
theorem dX10_claim_20 : decode cX10_claim 20 = .ok (.sipush 255, 3) := by decide +kernel
theorem dX10_claim_23 : decode cX10_claim 23 = .ok (.invokestatic 67, 3) := by decide +kernel
theorem dX10_claim_26 : decode cX10_claim 26 = .ok (.ifCond .eq 20, 3) := by decide +kernel
theorem dX10_claim_29 : decode cX10_claim 29 = .ok (.iload_n 3, 1) := by decide +kernel
theorem dX10_claim_30 : decode cX10_claim 30 = .ok (.iconst 0, 1) := by decide +kernel
theorem dX10_claim_31 : decode cX10_claim 31 = .ok (.sipush 255, 3) := by decide +kernel
theorem dX10_claim_34 : decode cX10_claim 34 = .ok (.invokestatic 67, 3) := by decide +kernel
theorem dX10_claim_37 : decode cX10_claim 37 = .ok (.ifCond .eq 9, 3) := by decide +kernel
theorem dX10_claim_40 : decode cX10_claim 40 = .ok (.iload_n 2, 1) := by decide +kernel
theorem dX10_claim_41 : decode cX10_claim 41 = .ok (.iload_n 3, 1) := by decide +kernel
theorem dX10_claim_42 : decode cX10_claim 42 = .ok (.iand, 1) := by decide +kernel
theorem dX10_claim_43 : decode cX10_claim 43 = .ok (.ifCond .eq 7, 3) := by decide +kernel
theorem dX10_claim_46 : decode cX10_claim 46 = .ok (.sipush (-1002), 3) := by decide +kernel
theorem dX10_claim_49 : decode cX10_claim 49 = .ok (.ireturn, 1) := by decide +kernel
theorem dX10_claim_50 : decode cX10_claim 50 = .ok (.aload_n 0, 1) := by decide +kernel
theorem dX10_claim_51 : decode cX10_claim 51 = .ok (.getfield 26, 3) := by decide +kernel
theorem dX10_claim_54 : decode cX10_claim 54 = .ok (.getfield 116, 3) := by decide +kernel
theorem dX10_claim_57 : decode cX10_claim 57 = .ok (.getfield 171, 3) := by decide +kernel
theorem dX10_claim_60 : decode cX10_claim 60 = .ok (.iload_n 1, 1) := by decide +kernel
theorem dX10_claim_61 : decode cX10_claim 61 = .ok (.iaload, 1) := by decide +kernel
theorem dX10_claim_62 : decode cX10_claim 62 = .ok (.iconst (-1), 1) := by decide +kernel
theorem dX10_claim_63 : decode cX10_claim 63 = .ok (.if_icmp .ne 33, 3) := by decide +kernel
theorem dX10_claim_66 : decode cX10_claim 66 = .ok (.aload_n 0, 1) := by decide +kernel
theorem dX10_claim_67 : decode cX10_claim 67 = .ok (.getfield 26, 3) := by decide +kernel
theorem dX10_claim_70 : decode cX10_claim 70 = .ok (.getfield 116, 3) := by decide +kernel
theorem dX10_claim_73 : decode cX10_claim 73 = .ok (.getfield 180, 3) := by decide +kernel
theorem dX10_claim_76 : decode cX10_claim 76 = .ok (.iload_n 1, 1) := by decide +kernel
theorem dX10_claim_77 : decode cX10_claim 77 = .ok (.iaload, 1) := by decide +kernel
theorem dX10_claim_78 : decode cX10_claim 78 = .ok (.iconst (-1), 1) := by decide +kernel
theorem dX10_claim_79 : decode cX10_claim 79 = .ok (.if_icmp .ne 17, 3) := by decide +kernel
theorem dX10_claim_82 : decode cX10_claim 82 = .ok (.aload_n 0, 1) := by decide +kernel
theorem dX10_claim_83 : decode cX10_claim 83 = .ok (.getfield 26, 3) := by decide +kernel
theorem dX10_claim_86 : decode cX10_claim 86 = .ok (.getfield 131, 3) := by decide +kernel
theorem dX10_claim_89 : decode cX10_claim 89 = .ok (.iload_n 1, 1) := by decide +kernel
theorem dX10_claim_90 : decode cX10_claim 90 = .ok (.invokevirtual 283, 3) := by decide +kernel
theorem dX10_claim_93 : decode cX10_claim 93 = .ok (.ifCond .eq 7, 3) := by decide +kernel
theorem dX10_claim_96 : decode cX10_claim 96 = .ok (.sipush (-1003), 3) := by decide +kernel
theorem dX10_claim_99 : decode cX10_claim 99 = .ok (.ireturn, 1) := by decide +kernel
theorem dX10_claim_100 : decode cX10_claim 100 = .ok (.aload_n 0, 1) := by decide +kernel
theorem dX10_claim_101 : decode cX10_claim 101 = .ok (.getfield 26, 3) := by decide +kernel
theorem dX10_claim_104 : decode cX10_claim 104 = .ok (.getfield 131, 3) := by decide +kernel
theorem dX10_claim_107 : decode cX10_claim 107 = .ok (.getfield 135, 3) := by decide +kernel
theorem dX10_claim_110 : decode cX10_claim 110 = .ok (.bipush 6, 2) := by decide +kernel
theorem dX10_claim_112 : decode cX10_claim 112 = .ok (.if_icmp .lt 7, 3) := by decide +kernel
theorem dX10_claim_115 : decode cX10_claim 115 = .ok (.sipush (-1004), 3) := by decide +kernel
theorem dX10_claim_118 : decode cX10_claim 118 = .ok (.ireturn, 1) := by decide +kernel
theorem dX10_claim_119 : decode cX10_claim 119 = .ok (.aload_n 0, 1) := by decide +kernel
theorem dX10_claim_120 : decode cX10_claim 120 = .ok (.getfield 26, 3) := by decide +kernel
theorem dX10_claim_123 : decode cX10_claim 123 = .ok (.getfield 131, 3) := by decide +kernel
theorem dX10_claim_126 : decode cX10_claim 126 = .ok (.iload_n 1, 1) := by decide +kernel
theorem dX10_claim_127 : decode cX10_claim 127 = .ok (.iload_n 2, 1) := by decide +kernel
theorem dX10_claim_128 : decode cX10_claim 128 = .ok (.iload_n 3, 1) := by decide +kernel
theorem dX10_claim_129 : decode cX10_claim 129 = .ok (.invokevirtual 286, 3) := by decide +kernel
theorem dX10_claim_132 : decode cX10_claim 132 = .ok (.ireturn, 1) := by decide +kernel
set_option maxRecDepth 20000 in
theorem ggX10_fits_X0_knows : GoodIn wsX10_fits wsX0_knows := goodIn_r _ [8, 9, 55, 56, 57, 58] (by decide +kernel) (by decide +kernel)
set_option maxRecDepth 20000 in
theorem gX10_fits_X0_knows : GoodIn wsX10_fits (wsV RX10 288 RX0 yX0_knows wsX0_knows) := goodIn_app (goodIn_of _ (by decide +kernel)) ggX10_fits_X0_knows
set_option maxRecDepth 20000 in
theorem ggX10_fits_X0_thingsFor : GoodIn wsX10_fits wsX0_thingsFor := goodIn_r _ [13, 14, 15, 16, 17, 18, 5, 6, 7, 8, 9, 19, 20, 21, 22, 23, 24, 25, 26, 27, 28, 29, 30, 31, 32, 33, 34, 35, 36, 37, 38, 39, 55, 56, 57, 58, 59, 60, 61, 62, 63, 64, 65, 66] (by decide +kernel) (by decide +kernel)
set_option maxRecDepth 20000 in
theorem gX10_fits_X0_thingsFor : GoodIn wsX10_fits (wsV RX10 289 RX0 yX0_thingsFor wsX0_thingsFor) := goodIn_app (goodIn_of _ (by decide +kernel)) ggX10_fits_X0_thingsFor
theorem dX10_fits_0 : decode cX10_fits 0 = .ok (.aload_n 0, 1) := by decide +kernel
theorem dX10_fits_1 : decode cX10_fits 1 = .ok (.getfield 26, 3) := by decide +kernel
theorem dX10_fits_4 : decode cX10_fits 4 = .ok (.getfield 131, 3) := by decide +kernel
theorem dX10_fits_7 : decode cX10_fits 7 = .ok (.iload_n 1, 1) := by decide +kernel
theorem dX10_fits_8 : decode cX10_fits 8 = .ok (.invokevirtual 288, 3) := by decide +kernel
theorem dX10_fits_11 : decode cX10_fits 11 = .ok (.ifCond .ne 7, 3) := by decide +kernel
theorem dX10_fits_14 : decode cX10_fits 14 = .ok (.sipush (-1001), 3) := by decide +kernel
theorem dX10_fits_17 : decode cX10_fits 17 = .ok (.ireturn, 1) := by decide +kernel
theorem dX10_fits_18 : decode cX10_fits 18 = .ok (.aload_n 0, 1) := by decide +kernel
theorem dX10_fits_19 : decode cX10_fits 19 = .ok (.getfield 26, 3) := by decide +kernel
theorem dX10_fits_22 : decode cX10_fits 22 = .ok (.getfield 131, 3) := by decide +kernel
theorem dX10_fits_25 : decode cX10_fits 25 = .ok (.iload_n 1, 1) := by decide +kernel
theorem dX10_fits_26 : decode cX10_fits 26 = .ok (.aload_n 0, 1) := by decide +kernel
theorem dX10_fits_27 : decode cX10_fits 27 = .ok (.getfield 26, 3) := by decide +kernel
theorem dX10_fits_30 : decode cX10_fits 30 = .ok (.getfield 116, 3) := by decide +kernel
theorem dX10_fits_33 : decode cX10_fits 33 = .ok (.invokevirtual 289, 3) := by decide +kernel
theorem dX10_fits_36 : decode cX10_fits 36 = .ok (.ireturn, 1) := by decide +kernel
set_option maxRecDepth 20000 in
theorem ggX10_ways_X5_load : GoodIn wsX10_ways wsX5_load := goodIn_r _ [9, 10, 11, 12, 13, 14, 15, 16, 17, 18, 19, 20, 21, 22, 23, 24, 25, 26, 27, 28, 29, 30, 31, 32, 33, 34, 35, 36, 37, 38, 39, 40, 41, 42, 43, 44, 45, 46, 47, 48, 49, 50, 51, 76, 77, 78, 79, 80, 81, 82, 83, 84, 85, 86, 87, 88, 89, 90] (by decide +kernel) (by decide +kernel)
set_option maxRecDepth 20000 in
theorem gX10_ways_X5_load : GoodIn wsX10_ways (wsV RX10 293 RX5 yX5_load wsX5_load) := goodIn_app (goodIn_of _ (by decide +kernel)) ggX10_ways_X5_load
set_option maxRecDepth 20000 in
theorem ggX10_ways_X5_number : GoodIn wsX10_ways wsX5_number := goodIn_r _ [55, 15, 16, 56, 57, 58, 59, 8, 60, 80, 81, 82] (by decide +kernel) (by decide +kernel)
set_option maxRecDepth 20000 in
theorem gX10_ways_X5_number : GoodIn wsX10_ways (wsV RX10 296 RX5 yX5_number wsX5_number) := goodIn_app (goodIn_of _ (by decide +kernel)) ggX10_ways_X5_number
theorem dX10_ways_0 : decode cX10_ways 0 = .ok (.aload_n 0, 1) := by decide +kernel
theorem dX10_ways_1 : decode cX10_ways 1 = .ok (.getfield 53, 3) := by decide +kernel
theorem dX10_ways_4 : decode cX10_ways 4 = .ok (.aload_n 0, 1) := by decide +kernel
theorem dX10_ways_5 : decode cX10_ways 5 = .ok (.getfield 26, 3) := by decide +kernel
theorem dX10_ways_8 : decode cX10_ways 8 = .ok (.getfield 131, 3) := by decide +kernel
theorem dX10_ways_11 : decode cX10_ways 11 = .ok (.aload_n 0, 1) := by decide +kernel
theorem dX10_ways_12 : decode cX10_ways 12 = .ok (.getfield 26, 3) := by decide +kernel
theorem dX10_ways_15 : decode cX10_ways 15 = .ok (.getfield 116, 3) := by decide +kernel
theorem dX10_ways_18 : decode cX10_ways 18 = .ok (.invokevirtual 293, 3) := by decide +kernel
theorem dX10_ways_21 : decode cX10_ways 21 = .ok (.aload_n 0, 1) := by decide +kernel
theorem dX10_ways_22 : decode cX10_ways 22 = .ok (.getfield 53, 3) := by decide +kernel
theorem dX10_ways_25 : decode cX10_ways 25 = .ok (.invokevirtual 296, 3) := by decide +kernel
theorem dX10_ways_28 : decode cX10_ways 28 = .ok (.lreturn, 1) := by decide +kernel
set_option maxRecDepth 20000 in
theorem ggX10_sure_X0_knows : GoodIn wsX10_sure wsX0_knows := goodIn_r _ [9, 10, 84, 85, 86, 87] (by decide +kernel) (by decide +kernel)
set_option maxRecDepth 20000 in
theorem gX10_sure_X0_knows : GoodIn wsX10_sure (wsV RX10 288 RX0 yX0_knows wsX0_knows) := goodIn_app (goodIn_of _ (by decide +kernel)) ggX10_sure_X0_knows
set_option maxRecDepth 20000 in
theorem ggX10_sure_X5_load : GoodIn wsX10_sure wsX5_load := goodIn_r _ [15, 16, 17, 18, 19, 20, 21, 22, 23, 24, 25, 8, 26, 27, 28, 29, 30, 31, 6, 7, 9, 10, 32, 33, 34, 35, 36, 37, 38, 39, 40, 41, 42, 43, 44, 45, 46, 47, 48, 49, 50, 51, 52, 84, 85, 86, 87, 88, 89, 90, 91, 92, 93, 94, 95, 96, 97, 98] (by decide +kernel) (by decide +kernel)
set_option maxRecDepth 20000 in
theorem gX10_sure_X5_load : GoodIn wsX10_sure (wsV RX10 293 RX5 yX5_load wsX5_load) := goodIn_app (goodIn_of _ (by decide +kernel)) ggX10_sure_X5_load
set_option maxRecDepth 20000 in
theorem ggX10_sure_X5_onlyThingOf : GoodIn wsX10_sure wsX5_onlyThingOf := goodIn_r _ [56, 21, 22, 57, 58, 59, 60, 61, 62, 14, 63, 64, 65, 66, 67, 68, 88, 89, 90] (by decide +kernel) (by decide +kernel)
set_option maxRecDepth 20000 in
theorem gX10_sure_X5_onlyThingOf : GoodIn wsX10_sure (wsV RX10 299 RX5 yX5_onlyThingOf wsX5_onlyThingOf) := goodIn_app (goodIn_of _ (by decide +kernel)) ggX10_sure_X5_onlyThingOf
theorem dX10_sure_0 : decode cX10_sure 0 = .ok (.aload_n 0, 1) := by decide +kernel
theorem dX10_sure_1 : decode cX10_sure 1 = .ok (.getfield 26, 3) := by decide +kernel
theorem dX10_sure_4 : decode cX10_sure 4 = .ok (.getfield 131, 3) := by decide +kernel
theorem dX10_sure_7 : decode cX10_sure 7 = .ok (.iload_n 1, 1) := by decide +kernel
theorem dX10_sure_8 : decode cX10_sure 8 = .ok (.invokevirtual 288, 3) := by decide +kernel
theorem dX10_sure_11 : decode cX10_sure 11 = .ok (.ifCond .ne 7, 3) := by decide +kernel
theorem dX10_sure_14 : decode cX10_sure 14 = .ok (.sipush (-1001), 3) := by decide +kernel
theorem dX10_sure_17 : decode cX10_sure 17 = .ok (.ireturn, 1) := by decide +kernel
theorem dX10_sure_18 : decode cX10_sure 18 = .ok (.aload_n 0, 1) := by decide +kernel
theorem dX10_sure_19 : decode cX10_sure 19 = .ok (.getfield 53, 3) := by decide +kernel
theorem dX10_sure_22 : decode cX10_sure 22 = .ok (.aload_n 0, 1) := by decide +kernel
theorem dX10_sure_23 : decode cX10_sure 23 = .ok (.getfield 26, 3) := by decide +kernel
theorem dX10_sure_26 : decode cX10_sure 26 = .ok (.getfield 131, 3) := by decide +kernel
theorem dX10_sure_29 : decode cX10_sure 29 = .ok (.aload_n 0, 1) := by decide +kernel
theorem dX10_sure_30 : decode cX10_sure 30 = .ok (.getfield 26, 3) := by decide +kernel
theorem dX10_sure_33 : decode cX10_sure 33 = .ok (.getfield 116, 3) := by decide +kernel
theorem dX10_sure_36 : decode cX10_sure 36 = .ok (.invokevirtual 293, 3) := by decide +kernel
theorem dX10_sure_39 : decode cX10_sure 39 = .ok (.aload_n 0, 1) := by decide +kernel
theorem dX10_sure_40 : decode cX10_sure 40 = .ok (.getfield 53, 3) := by decide +kernel
theorem dX10_sure_43 : decode cX10_sure 43 = .ok (.iload_n 1, 1) := by decide +kernel
theorem dX10_sure_44 : decode cX10_sure 44 = .ok (.invokevirtual 299, 3) := by decide +kernel
theorem dX10_sure_47 : decode cX10_sure 47 = .ok (.ireturn, 1) := by decide +kernel
set_option maxRecDepth 20000 in
theorem ggX10_grant_X0_knows : GoodIn wsX10_grant wsX0_knows := goodIn_r _ [9, 10, 97, 98, 99, 100] (by decide +kernel) (by decide +kernel)
set_option maxRecDepth 20000 in
theorem gX10_grant_X0_knows : GoodIn wsX10_grant (wsV RX10 288 RX0 yX0_knows wsX0_knows) := goodIn_app (goodIn_of _ (by decide +kernel)) ggX10_grant_X0_knows
set_option maxRecDepth 20000 in
theorem ggX10_grant_X5_load : GoodIn wsX10_grant wsX5_load := goodIn_r _ [15, 16, 17, 18, 19, 20, 21, 22, 23, 24, 25, 8, 26, 27, 28, 29, 30, 31, 6, 7, 9, 10, 32, 33, 34, 35, 36, 37, 38, 39, 40, 41, 42, 43, 44, 45, 46, 47, 48, 49, 50, 51, 52, 97, 98, 99, 100, 101, 102, 103, 104, 105, 106, 107, 108, 109, 110, 111] (by decide +kernel) (by decide +kernel)
set_option maxRecDepth 20000 in
theorem gX10_grant_X5_load : GoodIn wsX10_grant (wsV RX10 293 RX5 yX5_load wsX5_load) := goodIn_app (goodIn_of _ (by decide +kernel)) ggX10_grant_X5_load
set_option maxRecDepth 20000 in
theorem ggX10_grant_X5_onlyThingOf : GoodIn wsX10_grant wsX5_onlyThingOf := goodIn_r _ [56, 21, 22, 57, 58, 59, 60, 61, 62, 14, 63, 64, 65, 66, 67, 68, 101, 102, 103] (by decide +kernel) (by decide +kernel)
set_option maxRecDepth 20000 in
theorem gX10_grant_X5_onlyThingOf : GoodIn wsX10_grant (wsV RX10 299 RX5 yX5_onlyThingOf wsX5_onlyThingOf) := goodIn_app (goodIn_of _ (by decide +kernel)) ggX10_grant_X5_onlyThingOf
set_option maxRecDepth 20000 in
theorem ggX10_grant_X0_guestOf : GoodIn wsX10_grant wsX0_guestOf := goodIn_r _ [72, 27, 31, 6, 7, 8, 9, 10, 97, 98, 99, 100] (by decide +kernel) (by decide +kernel)
set_option maxRecDepth 20000 in
theorem gX10_grant_X0_guestOf : GoodIn wsX10_grant (wsV RX10 302 RX0 yX0_guestOf wsX0_guestOf) := goodIn_app (goodIn_of _ (by decide +kernel)) ggX10_grant_X0_guestOf
set_option maxRecDepth 20000 in
theorem ggX10_grant_X2_handOver : GoodIn wsX10_grant wsX2_handOver := goodIn_r _ [76, 52, 77, 38, 39, 40, 35, 41, 42, 104, 105, 106, 107, 108, 109, 110, 111] (by decide +kernel) (by decide +kernel)
set_option maxRecDepth 20000 in
theorem gX10_grant_X2_handOver : GoodIn wsX10_grant (wsV RX10 223 RX2 yX2_handOver wsX2_handOver) := goodIn_app (goodIn_of _ (by decide +kernel)) ggX10_grant_X2_handOver
set_option maxRecDepth 20000 in
theorem ggX10_grant_X0_remove : GoodIn wsX10_grant wsX0_remove := goodIn_r _ [81, 10, 27, 29, 30, 31, 6, 7, 8, 9, 97, 98, 99, 100] (by decide +kernel) (by decide +kernel)
set_option maxRecDepth 20000 in
theorem gX10_grant_X0_remove : GoodIn wsX10_grant (wsV RX10 305 RX0 yX0_remove wsX0_remove) := goodIn_app (goodIn_of _ (by decide +kernel)) ggX10_grant_X0_remove
theorem dX10_grant_0 : decode cX10_grant 0 = .ok (.aload_n 0, 1) := by decide +kernel
theorem dX10_grant_1 : decode cX10_grant 1 = .ok (.getfield 26, 3) := by decide +kernel
theorem dX10_grant_4 : decode cX10_grant 4 = .ok (.getfield 131, 3) := by decide +kernel
theorem dX10_grant_7 : decode cX10_grant 7 = .ok (.iload_n 1, 1) := by decide +kernel
theorem dX10_grant_8 : decode cX10_grant 8 = .ok (.invokevirtual 288, 3) := by decide +kernel
theorem dX10_grant_11 : decode cX10_grant 11 = .ok (.ifCond .ne 7, 3) := by decide +kernel
theorem dX10_grant_14 : decode cX10_grant 14 = .ok (.sipush (-1001), 3) := by decide +kernel
theorem dX10_grant_17 : decode cX10_grant 17 = .ok (.ireturn, 1) := by decide +kernel
theorem dX10_grant_18 : decode cX10_grant 18 = .ok (.aload_n 0, 1) := by decide +kernel
theorem dX10_grant_19 : decode cX10_grant 19 = .ok (.getfield 53, 3) := by decide +kernel
theorem dX10_grant_22 : decode cX10_grant 22 = .ok (.aload_n 0, 1) := by decide +kernel
theorem dX10_grant_23 : decode cX10_grant 23 = .ok (.getfield 26, 3) := by decide +kernel
theorem dX10_grant_26 : decode cX10_grant 26 = .ok (.getfield 131, 3) := by decide +kernel
theorem dX10_grant_29 : decode cX10_grant 29 = .ok (.aload_n 0, 1) := by decide +kernel
theorem dX10_grant_30 : decode cX10_grant 30 = .ok (.getfield 26, 3) := by decide +kernel
theorem dX10_grant_33 : decode cX10_grant 33 = .ok (.getfield 116, 3) := by decide +kernel
theorem dX10_grant_36 : decode cX10_grant 36 = .ok (.invokevirtual 293, 3) := by decide +kernel
theorem dX10_grant_39 : decode cX10_grant 39 = .ok (.aload_n 0, 1) := by decide +kernel
theorem dX10_grant_40 : decode cX10_grant 40 = .ok (.getfield 53, 3) := by decide +kernel
theorem dX10_grant_43 : decode cX10_grant 43 = .ok (.iload_n 1, 1) := by decide +kernel
theorem dX10_grant_44 : decode cX10_grant 44 = .ok (.invokevirtual 299, 3) := by decide +kernel
theorem dX10_grant_47 : decode cX10_grant 47 = .ok (.istore_n 2, 1) := by decide +kernel
theorem dX10_grant_48 : decode cX10_grant 48 = .ok (.iload_n 2, 1) := by decide +kernel
theorem dX10_grant_49 : decode cX10_grant 49 = .ok (.iconst (-1), 1) := by decide +kernel
theorem dX10_grant_50 : decode cX10_grant 50 = .ok (.if_icmp .ne 7, 3) := by decide +kernel
theorem dX10_grant_53 : decode cX10_grant 53 = .ok (.sipush (-1003), 3) := by decide +kernel
theorem dX10_grant_56 : decode cX10_grant 56 = .ok (.ireturn, 1) := by decide +kernel
theorem dX10_grant_57 : decode cX10_grant 57 = .ok (.aload_n 0, 1) := by decide +kernel
theorem dX10_grant_58 : decode cX10_grant 58 = .ok (.getfield 26, 3) := by decide +kernel
theorem dX10_grant_61 : decode cX10_grant 61 = .ok (.getfield 116, 3) := by decide +kernel
theorem dX10_grant_64 : decode cX10_grant 64 = .ok (.iload_n 2, 1) := by decide +kernel
theorem dX10_grant_65 : decode cX10_grant 65 = .ok (.aload_n 0, 1) := by decide +kernel
theorem dX10_grant_66 : decode cX10_grant 66 = .ok (.getfield 26, 3) := by decide +kernel
theorem dX10_grant_69 : decode cX10_grant 69 = .ok (.getfield 131, 3) := by decide +kernel
theorem dX10_grant_72 : decode cX10_grant 72 = .ok (.iload_n 1, 1) := by decide +kernel
theorem dX10_grant_73 : decode cX10_grant 73 = .ok (.invokevirtual 302, 3) := by decide +kernel
theorem dX10_grant_76 : decode cX10_grant 76 = .ok (.invokevirtual 223, 3) := by decide +kernel
theorem dX10_grant_79 : decode cX10_grant 79 = .ok (.aload_n 0, 1) := by decide +kernel
theorem dX10_grant_80 : decode cX10_grant 80 = .ok (.getfield 26, 3) := by decide +kernel
theorem dX10_grant_83 : decode cX10_grant 83 = .ok (.getfield 131, 3) := by decide +kernel
theorem dX10_grant_86 : decode cX10_grant 86 = .ok (.iload_n 1, 1) := by decide +kernel
theorem dX10_grant_87 : decode cX10_grant 87 = .ok (.invokevirtual 305, 3) := by decide +kernel
theorem dX10_grant_90 : decode cX10_grant 90 = .ok (.iload_n 2, 1) := by decide +kernel
theorem dX10_grant_91 : decode cX10_grant 91 = .ok (.ireturn, 1) := by decide +kernel
set_option maxRecDepth 20000 in
theorem ggX10_apart_X2_knows : GoodIn wsX10_apart wsX2_knows := goodIn_r _ [8, 9, 25, 26, 27, 28, 29, 30, 31, 32] (by decide +kernel) (by decide +kernel)
set_option maxRecDepth 20000 in
theorem gX10_apart_X2_knows : GoodIn wsX10_apart (wsV RX10 158 RX2 yX2_knows wsX2_knows) := goodIn_app (goodIn_of _ (by decide +kernel)) ggX10_apart_X2_knows
theorem dX10_apart_0 : decode cX10_apart 0 = .ok (.aload_n 0, 1) := by decide +kernel
theorem dX10_apart_1 : decode cX10_apart 1 = .ok (.getfield 26, 3) := by decide +kernel
theorem dX10_apart_4 : decode cX10_apart 4 = .ok (.getfield 116, 3) := by decide +kernel
theorem dX10_apart_7 : decode cX10_apart 7 = .ok (.iload_n 1, 1) := by decide +kernel
theorem dX10_apart_8 : decode cX10_apart 8 = .ok (.invokevirtual 158, 3) := by decide +kernel
theorem dX10_apart_11 : decode cX10_apart 11 = .ok (.ifCond .eq 17, 3) := by decide +kernel
theorem dX10_apart_14 : decode cX10_apart 14 = .ok (.aload_n 0, 1) := by decide +kernel
theorem dX10_apart_15 : decode cX10_apart 15 = .ok (.getfield 26, 3) := by decide +kernel
theorem dX10_apart_18 : decode cX10_apart 18 = .ok (.getfield 116, 3) := by decide +kernel
theorem dX10_apart_21 : decode cX10_apart 21 = .ok (.iload_n 2, 1) := by decide +kernel
theorem dX10_apart_22 : decode cX10_apart 22 = .ok (.invokevirtual 158, 3) := by decide +kernel
theorem dX10_apart_25 : decode cX10_apart 25 = .ok (.ifCond .ne 7, 3) := by decide +kernel
theorem dX10_apart_28 : decode cX10_apart 28 = .ok (.sipush (-1001), 3) := by decide +kernel
theorem dX10_apart_31 : decode cX10_apart 31 = .ok (.ireturn, 1) := by decide +kernel
theorem dX10_apart_32 : decode cX10_apart 32 = .ok (.aload_n 0, 1) := by decide +kernel
theorem dX10_apart_33 : decode cX10_apart 33 = .ok (.getfield 26, 3) := by decide +kernel
theorem dX10_apart_36 : decode cX10_apart 36 = .ok (.getfield 116, 3) := by decide +kernel
theorem dX10_apart_39 : decode cX10_apart 39 = .ok (.getfield 168, 3) := by decide +kernel
theorem dX10_apart_42 : decode cX10_apart 42 = .ok (.iload_n 1, 1) := by decide +kernel
theorem dX10_apart_43 : decode cX10_apart 43 = .ok (.iaload, 1) := by decide +kernel
theorem dX10_apart_44 : decode cX10_apart 44 = .ok (.aload_n 0, 1) := by decide +kernel
theorem dX10_apart_45 : decode cX10_apart 45 = .ok (.getfield 26, 3) := by decide +kernel
theorem dX10_apart_48 : decode cX10_apart 48 = .ok (.getfield 116, 3) := by decide +kernel
theorem dX10_apart_51 : decode cX10_apart 51 = .ok (.getfield 168, 3) := by decide +kernel
theorem dX10_apart_54 : decode cX10_apart 54 = .ok (.iload_n 2, 1) := by decide +kernel
theorem dX10_apart_55 : decode cX10_apart 55 = .ok (.iaload, 1) := by decide +kernel
theorem dX10_apart_56 : decode cX10_apart 56 = .ok (.ixor, 1) := by decide +kernel
theorem dX10_apart_57 : decode cX10_apart 57 = .ok (.ireturn, 1) := by decide +kernel
set_option maxRecDepth 20000 in
theorem ggX10_asks_X0_knows : GoodIn wsX10_asks wsX0_knows := goodIn_r _ [8, 9, 73, 74, 75, 76] (by decide +kernel) (by decide +kernel)
set_option maxRecDepth 20000 in
theorem gX10_asks_X0_knows : GoodIn wsX10_asks (wsV RX10 288 RX0 yX0_knows wsX0_knows) := goodIn_app (goodIn_of _ (by decide +kernel)) ggX10_asks_X0_knows
set_option maxRecDepth 20000 in
theorem ggX10_asks_X0_fewestAsked : GoodIn wsX10_asks wsX0_fewestAsked := goodIn_r _ [13, 14, 15, 16, 7, 17, 18, 19, 20, 21, 22, 5, 6, 8, 9, 23, 24, 25, 26, 27, 28, 29, 30, 31, 32, 33, 34, 35, 36, 37, 38, 39, 40, 41, 42, 43, 44, 45, 46, 47, 48, 49, 50, 51, 52, 53, 54, 55, 56, 57, 73, 74, 75, 76, 77, 78, 79, 80, 81, 82, 83, 84] (by decide +kernel) (by decide +kernel)
set_option maxRecDepth 20000 in
theorem gX10_asks_X0_fewestAsked : GoodIn wsX10_asks (wsV RX10 308 RX0 yX0_fewestAsked wsX0_fewestAsked) := goodIn_app (goodIn_of _ (by decide +kernel)) ggX10_asks_X0_fewestAsked
theorem dX10_asks_0 : decode cX10_asks 0 = .ok (.aload_n 0, 1) := by decide +kernel
theorem dX10_asks_1 : decode cX10_asks 1 = .ok (.getfield 26, 3) := by decide +kernel
theorem dX10_asks_4 : decode cX10_asks 4 = .ok (.getfield 131, 3) := by decide +kernel
theorem dX10_asks_7 : decode cX10_asks 7 = .ok (.iload_n 1, 1) := by decide +kernel
theorem dX10_asks_8 : decode cX10_asks 8 = .ok (.invokevirtual 288, 3) := by decide +kernel
theorem dX10_asks_11 : decode cX10_asks 11 = .ok (.ifCond .ne 7, 3) := by decide +kernel
theorem dX10_asks_14 : decode cX10_asks 14 = .ok (.sipush (-1001), 3) := by decide +kernel
theorem dX10_asks_17 : decode cX10_asks 17 = .ok (.ireturn, 1) := by decide +kernel
theorem dX10_asks_18 : decode cX10_asks 18 = .ok (.aload_n 0, 1) := by decide +kernel
theorem dX10_asks_19 : decode cX10_asks 19 = .ok (.getfield 26, 3) := by decide +kernel
theorem dX10_asks_22 : decode cX10_asks 22 = .ok (.getfield 131, 3) := by decide +kernel
theorem dX10_asks_25 : decode cX10_asks 25 = .ok (.iload_n 1, 1) := by decide +kernel
theorem dX10_asks_26 : decode cX10_asks 26 = .ok (.aload_n 0, 1) := by decide +kernel
theorem dX10_asks_27 : decode cX10_asks 27 = .ok (.getfield 26, 3) := by decide +kernel
theorem dX10_asks_30 : decode cX10_asks 30 = .ok (.getfield 116, 3) := by decide +kernel
theorem dX10_asks_33 : decode cX10_asks 33 = .ok (.invokevirtual 308, 3) := by decide +kernel
theorem dX10_asks_36 : decode cX10_asks 36 = .ok (.ireturn, 1) := by decide +kernel
set_option maxRecDepth 20000 in
theorem ggX10_keep_X10_imageOf : GoodIn wsX10_keep wsX10_imageOf := goodIn_r _ [7, 8, 9, 10, 11, 6, 12, 65, 66, 67, 68, 69, 70, 71, 72, 73, 74] (by decide +kernel) (by decide +kernel)
set_option maxRecDepth 20000 in
theorem gX10_keep_X10_imageOf : GoodIn wsX10_keep (wsV RX10 311 RX10 yX10_imageOf wsX10_imageOf) := goodIn_app (goodIn_of _ (by decide +kernel)) ggX10_keep_X10_imageOf
set_option maxRecDepth 20000 in
theorem ggX10_keep_X4_copyFrom : GoodIn wsX10_keep wsX4_copyFrom := goodIn_r _ [17, 18, 19, 20, 21, 22, 23, 24, 25, 26, 27, 28, 29, 30, 31, 32, 33, 34, 35, 36, 37, 38, 39, 40, 41, 42, 43, 44, 45, 46, 47, 48, 49, 50, 51, 52, 53, 54, 55, 56, 57, 58, 59, 60, 61, 62, 63, 64, 75, 76, 77, 78, 79, 80, 81, 82, 83, 84, 85, 86, 87, 88, 89, 90, 91, 92, 93, 94, 95] (by decide +kernel) (by decide +kernel)
set_option maxRecDepth 20000 in
theorem gX10_keep_X4_copyFrom : GoodIn wsX10_keep (wsV RX10 315 RX4 yX4_copyFrom wsX4_copyFrom) := goodIn_app (goodIn_of _ (by decide +kernel)) ggX10_keep_X4_copyFrom
theorem dX10_keep_0 : decode cX10_keep 0 = .ok (.aload_n 0, 1) := by decide +kernel
theorem dX10_keep_1 : decode cX10_keep 1 = .ok (.iload_n 1, 1) := by decide +kernel
theorem dX10_keep_2 : decode cX10_keep 2 = .ok (.invokevirtual 311, 3) := by decide +kernel
theorem dX10_keep_5 : decode cX10_keep 5 = .ok (.astore_n 2, 1) := by decide +kernel
theorem dX10_keep_6 : decode cX10_keep 6 = .ok (.aload_n 2, 1) := by decide +kernel
theorem dX10_keep_7 : decode cX10_keep 7 = .ok (.ifnonnull 7, 3) := by decide +kernel
theorem dX10_keep_10 : decode cX10_keep 10 = .ok (.sipush (-1001), 3) := by decide +kernel
theorem dX10_keep_13 : decode cX10_keep 13 = .ok (.ireturn, 1) := by decide +kernel
theorem dX10_keep_14 : decode cX10_keep 14 = .ok (.aload_n 2, 1) := by decide +kernel
theorem dX10_keep_15 : decode cX10_keep 15 = .ok (.aload_n 0, 1) := by decide +kernel
theorem dX10_keep_16 : decode cX10_keep 16 = .ok (.getfield 26, 3) := by decide +kernel
theorem dX10_keep_19 : decode cX10_keep 19 = .ok (.invokevirtual 315, 3) := by decide +kernel
theorem dX10_keep_22 : decode cX10_keep 22 = .ok (.aload_n 2, 1) := by decide +kernel
theorem dX10_keep_23 : decode cX10_keep 23 = .ok (.iconst 1, 1) := by decide +kernel
theorem dX10_keep_24 : decode cX10_keep 24 = .ok (.putfield 95, 3) := by decide +kernel
theorem dX10_keep_27 : decode cX10_keep 27 = .ok (.iconst 1, 1) := by decide +kernel
theorem dX10_keep_28 : decode cX10_keep 28 = .ok (.ireturn, 1) := by decide +kernel
set_option maxRecDepth 20000 in
theorem ggX10_goBack_X10_imageOf : GoodIn wsX10_goBack wsX10_imageOf := goodIn_r _ [7, 8, 9, 10, 11, 6, 12, 70, 71, 72, 73, 74, 75, 76, 77, 78, 79] (by decide +kernel) (by decide +kernel)
set_option maxRecDepth 20000 in
theorem gX10_goBack_X10_imageOf : GoodIn wsX10_goBack (wsV RX10 311 RX10 yX10_imageOf wsX10_imageOf) := goodIn_app (goodIn_of _ (by decide +kernel)) ggX10_goBack_X10_imageOf
set_option maxRecDepth 20000 in
theorem ggX10_goBack_X4_copyFrom : GoodIn wsX10_goBack wsX4_copyFrom := goodIn_r _ [17, 18, 19, 20, 21, 22, 23, 24, 25, 26, 27, 28, 29, 30, 31, 32, 33, 34, 35, 36, 37, 38, 39, 40, 41, 42, 43, 44, 45, 46, 47, 48, 49, 50, 51, 52, 53, 54, 55, 56, 57, 58, 59, 60, 61, 62, 63, 64, 65, 66, 67, 68, 69, 80, 81, 82, 83, 84, 85, 86, 87, 88, 89, 90, 91, 92, 93, 94, 95] (by decide +kernel) (by decide +kernel)
set_option maxRecDepth 20000 in
theorem gX10_goBack_X4_copyFrom : GoodIn wsX10_goBack (wsV RX10 315 RX4 yX4_copyFrom wsX4_copyFrom) := goodIn_app (goodIn_of _ (by decide +kernel)) ggX10_goBack_X4_copyFrom
theorem dX10_goBack_0 : decode cX10_goBack 0 = .ok (.aload_n 0, 1) := by decide +kernel
theorem dX10_goBack_1 : decode cX10_goBack 1 = .ok (.iload_n 1, 1) := by decide +kernel
theorem dX10_goBack_2 : decode cX10_goBack 2 = .ok (.invokevirtual 311, 3) := by decide +kernel
theorem dX10_goBack_5 : decode cX10_goBack 5 = .ok (.astore_n 2, 1) := by decide +kernel
theorem dX10_goBack_6 : decode cX10_goBack 6 = .ok (.aload_n 2, 1) := by decide +kernel
theorem dX10_goBack_7 : decode cX10_goBack 7 = .ok (.ifnonnull 7, 3) := by decide +kernel
theorem dX10_goBack_10 : decode cX10_goBack 10 = .ok (.sipush (-1001), 3) := by decide +kernel
theorem dX10_goBack_13 : decode cX10_goBack 13 = .ok (.ireturn, 1) := by decide +kernel
theorem dX10_goBack_14 : decode cX10_goBack 14 = .ok (.aload_n 2, 1) := by decide +kernel
theorem dX10_goBack_15 : decode cX10_goBack 15 = .ok (.getfield 95, 3) := by decide +kernel
theorem dX10_goBack_18 : decode cX10_goBack 18 = .ok (.ifCond .ne 7, 3) := by decide +kernel
theorem dX10_goBack_21 : decode cX10_goBack 21 = .ok (.sipush (-1003), 3) := by decide +kernel
theorem dX10_goBack_24 : decode cX10_goBack 24 = .ok (.ireturn, 1) := by decide +kernel
theorem dX10_goBack_25 : decode cX10_goBack 25 = .ok (.aload_n 0, 1) := by decide +kernel
theorem dX10_goBack_26 : decode cX10_goBack 26 = .ok (.getfield 26, 3) := by decide +kernel
theorem dX10_goBack_29 : decode cX10_goBack 29 = .ok (.aload_n 2, 1) := by decide +kernel
theorem dX10_goBack_30 : decode cX10_goBack 30 = .ok (.invokevirtual 315, 3) := by decide +kernel
theorem dX10_goBack_33 : decode cX10_goBack 33 = .ok (.iconst 1, 1) := by decide +kernel
theorem dX10_goBack_34 : decode cX10_goBack 34 = .ok (.ireturn, 1) := by decide +kernel
theorem dX10_within_0 : decode cX10_within 0 = .ok (.iload_n 0, 1) := by decide +kernel
theorem dX10_within_1 : decode cX10_within 1 = .ok (.iload_n 1, 1) := by decide +kernel
theorem dX10_within_2 : decode cX10_within 2 = .ok (.if_icmp .lt 12, 3) := by decide +kernel
theorem dX10_within_5 : decode cX10_within 5 = .ok (.iload_n 0, 1) := by decide +kernel
theorem dX10_within_6 : decode cX10_within 6 = .ok (.iload_n 2, 1) := by decide +kernel
theorem dX10_within_7 : decode cX10_within 7 = .ok (.if_icmp .gt 7, 3) := by decide +kernel
theorem dX10_within_10 : decode cX10_within 10 = .ok (.iconst 1, 1) := by decide +kernel
theorem dX10_within_11 : decode cX10_within 11 = .ok (.goto 4, 3) := by decide +kernel
theorem dX10_within_14 : decode cX10_within 14 = .ok (.iconst 0, 1) := by decide +kernel
theorem dX10_within_15 : decode cX10_within 15 = .ok (.ireturn, 1) := by decide +kernel
set_option maxRecDepth 20000 in
theorem ggX10_isHand_X10_within : GoodIn wsX10_isHand wsX10_within := goodIn_r _ [4] (by decide +kernel) (by decide +kernel)
set_option maxRecDepth 20000 in
theorem gX10_isHand_X10_within : GoodIn wsX10_isHand (va_wsS RX10 67 yX10_within wsX10_within) := goodIn_app (goodIn_of _ (by decide +kernel)) ggX10_isHand_X10_within
theorem dX10_isHand_0 : decode cX10_isHand 0 = .ok (.iload_n 0, 1) := by decide +kernel
theorem dX10_isHand_1 : decode cX10_isHand 1 = .ok (.iconst 0, 1) := by decide +kernel
theorem dX10_isHand_2 : decode cX10_isHand 2 = .ok (.iconst 3, 1) := by decide +kernel
theorem dX10_isHand_3 : decode cX10_isHand 3 = .ok (.invokestatic 67, 3) := by decide +kernel
theorem dX10_isHand_6 : decode cX10_isHand 6 = .ok (.ireturn, 1) := by decide +kernel
set_option maxRecDepth 20000 in
theorem ggX10_imageOf_X10_within : GoodIn wsX10_imageOf wsX10_within := goodIn_r _ [6] (by decide +kernel) (by decide +kernel)
set_option maxRecDepth 20000 in
theorem gX10_imageOf_X10_within : GoodIn wsX10_imageOf (va_wsS RX10 67 yX10_within wsX10_within) := goodIn_app (goodIn_of _ (by decide +kernel)) ggX10_imageOf_X10_within
theorem dX10_imageOf_0 : decode cX10_imageOf 0 = .ok (.iload_n 1, 1) := by decide +kernel
theorem dX10_imageOf_1 : decode cX10_imageOf 1 = .ok (.iconst 0, 1) := by decide +kernel
theorem dX10_imageOf_2 : decode cX10_imageOf 2 = .ok (.iconst 1, 1) := by decide +kernel
theorem dX10_imageOf_3 : decode cX10_imageOf 3 = .ok (.invokestatic 67, 3) := by decide +kernel
theorem dX10_imageOf_6 : decode cX10_imageOf 6 = .ok (.ifCond .ne 5, 3) := by decide +kernel
theorem dX10_imageOf_9 : decode cX10_imageOf 9 = .ok (.aconst_null, 1) := by decide +kernel
theorem dX10_imageOf_10 : decode cX10_imageOf 10 = .ok (.areturn, 1) := by decide +kernel
theorem dX10_imageOf_11 : decode cX10_imageOf 11 = .ok (.iload_n 1, 1) := by decide +kernel
theorem dX10_imageOf_12 : decode cX10_imageOf 12 = .ok (.ifCond .ne 10, 3) := by decide +kernel
theorem dX10_imageOf_15 : decode cX10_imageOf 15 = .ok (.aload_n 0, 1) := by decide +kernel
theorem dX10_imageOf_16 : decode cX10_imageOf 16 = .ok (.getfield 30, 3) := by decide +kernel
theorem dX10_imageOf_19 : decode cX10_imageOf 19 = .ok (.goto 7, 3) := by decide +kernel
theorem dX10_imageOf_22 : decode cX10_imageOf 22 = .ok (.aload_n 0, 1) := by decide +kernel
theorem dX10_imageOf_23 : decode cX10_imageOf 23 = .ok (.getfield 33, 3) := by decide +kernel
theorem dX10_imageOf_26 : decode cX10_imageOf 26 = .ok (.areturn, 1) := by decide +kernel
set_option maxRecDepth 20000 in
theorem ggX10_expectedOf_X2_knows : GoodIn wsX10_expectedOf wsX2_knows := goodIn_r _ [9, 10, 53, 54, 55, 56, 57, 58, 59, 60] (by decide +kernel) (by decide +kernel)
set_option maxRecDepth 20000 in
theorem gX10_expectedOf_X2_knows : GoodIn wsX10_expectedOf (wsV RX10 158 RX2 yX2_knows wsX2_knows) := goodIn_app (goodIn_of _ (by decide +kernel)) ggX10_expectedOf_X2_knows
set_option maxRecDepth 20000 in
theorem ggX10_expectedOf_X10_oddsInPlace : GoodIn wsX10_expectedOf wsX10_oddsInPlace := goodIn_r _ [15, 16, 4, 1, 17, 18, 19, 20, 21, 22, 23, 24, 25, 14, 26, 27, 28, 29, 30, 31, 32, 38, 39, 40, 41, 42, 43, 44, 45, 46, 47, 48, 49, 50, 51, 52, 61, 62, 63, 64, 65, 66, 67, 68, 69] (by decide +kernel) (by decide +kernel)
set_option maxRecDepth 20000 in
theorem gX10_expectedOf_X10_oddsInPlace : GoodIn wsX10_expectedOf (wsV RX10 319 RX10 yX10_oddsInPlace wsX10_oddsInPlace) := goodIn_app (goodIn_of _ (by decide +kernel)) ggX10_expectedOf_X10_oddsInPlace
set_option maxRecDepth 20000 in
theorem ggX10_expectedOf_X3_weightOf : GoodIn wsX10_expectedOf wsX3_weightOf := goodIn_r _ [36, 37, 25, 14, 26, 61, 62, 63, 64, 65, 66, 67] (by decide +kernel) (by decide +kernel)
set_option maxRecDepth 20000 in
theorem gX10_expectedOf_X3_weightOf : GoodIn wsX10_expectedOf (wsV RX10 151 RX3 yX3_weightOf wsX3_weightOf) := goodIn_app (goodIn_of _ (by decide +kernel)) ggX10_expectedOf_X3_weightOf
theorem dX10_expectedOf_0 : decode cX10_expectedOf 0 = .ok (.aload_n 0, 1) := by decide +kernel
theorem dX10_expectedOf_1 : decode cX10_expectedOf 1 = .ok (.getfield 26, 3) := by decide +kernel
theorem dX10_expectedOf_4 : decode cX10_expectedOf 4 = .ok (.getfield 116, 3) := by decide +kernel
theorem dX10_expectedOf_7 : decode cX10_expectedOf 7 = .ok (.iload_n 1, 1) := by decide +kernel
theorem dX10_expectedOf_8 : decode cX10_expectedOf 8 = .ok (.invokevirtual 158, 3) := by decide +kernel
theorem dX10_expectedOf_11 : decode cX10_expectedOf 11 = .ok (.ifCond .ne 5, 3) := by decide +kernel
theorem dX10_expectedOf_14 : decode cX10_expectedOf 14 = .ok (.iconst 0, 1) := by decide +kernel
theorem dX10_expectedOf_15 : decode cX10_expectedOf 15 = .ok (.ireturn, 1) := by decide +kernel
theorem dX10_expectedOf_16 : decode cX10_expectedOf 16 = .ok (.iconst 0, 1) := by decide +kernel
theorem dX10_expectedOf_17 : decode cX10_expectedOf 17 = .ok (.istore_n 2, 1) := by decide +kernel
theorem dX10_expectedOf_18 : decode cX10_expectedOf 18 = .ok (.iconst 0, 1) := by decide +kernel
theorem dX10_expectedOf_19 : decode cX10_expectedOf 19 = .ok (.istore_n 3, 1) := by decide +kernel
theorem dX10_expectedOf_20 : decode cX10_expectedOf 20 = .ok (.iload_n 3, 1) := by decide +kernel
theorem dX10_expectedOf_21 : decode cX10_expectedOf 21 = .ok (.iconst 3, 1) := by decide +kernel
theorem dX10_expectedOf_22 : decode cX10_expectedOf 22 = .ok (.if_icmp .ge 38, 3) := by decide +kernel
theorem dX10_expectedOf_25 : decode cX10_expectedOf 25 = .ok (.iload_n 2, 1) := by decide +kernel
theorem dX10_expectedOf_26 : decode cX10_expectedOf 26 = .ok (.aload_n 0, 1) := by decide +kernel
theorem dX10_expectedOf_27 : decode cX10_expectedOf 27 = .ok (.aload_n 0, 1) := by decide +kernel
theorem dX10_expectedOf_28 : decode cX10_expectedOf 28 = .ok (.getfield 26, 3) := by decide +kernel
theorem dX10_expectedOf_31 : decode cX10_expectedOf 31 = .ok (.getfield 116, 3) := by decide +kernel
theorem dX10_expectedOf_34 : decode cX10_expectedOf 34 = .ok (.getfield 161, 3) := by decide +kernel
theorem dX10_expectedOf_37 : decode cX10_expectedOf 37 = .ok (.iload_n 1, 1) := by decide +kernel
theorem dX10_expectedOf_38 : decode cX10_expectedOf 38 = .ok (.iaload, 1) := by decide +kernel
theorem dX10_expectedOf_39 : decode cX10_expectedOf 39 = .ok (.iload_n 3, 1) := by decide +kernel
theorem dX10_expectedOf_40 : decode cX10_expectedOf 40 = .ok (.invokevirtual 319, 3) := by decide +kernel
theorem dX10_expectedOf_43 : decode cX10_expectedOf 43 = .ok (.aload_n 0, 1) := by decide +kernel
theorem dX10_expectedOf_44 : decode cX10_expectedOf 44 = .ok (.getfield 10, 3) := by decide +kernel
theorem dX10_expectedOf_47 : decode cX10_expectedOf 47 = .ok (.iload_n 3, 1) := by decide +kernel
theorem dX10_expectedOf_48 : decode cX10_expectedOf 48 = .ok (.invokevirtual 151, 3) := by decide +kernel
theorem dX10_expectedOf_51 : decode cX10_expectedOf 51 = .ok (.imul, 1) := by decide +kernel
theorem dX10_expectedOf_52 : decode cX10_expectedOf 52 = .ok (.iadd, 1) := by decide +kernel
theorem dX10_expectedOf_53 : decode cX10_expectedOf 53 = .ok (.istore_n 2, 1) := by decide +kernel
theorem dX10_expectedOf_54 : decode cX10_expectedOf 54 = .ok (.iinc 3 1, 3) := by decide +kernel
theorem dX10_expectedOf_57 : decode cX10_expectedOf 57 = .ok (.goto (-37), 3) := by decide +kernel
theorem dX10_expectedOf_60 : decode cX10_expectedOf 60 = .ok (.iload_n 2, 1) := by decide +kernel
theorem dX10_expectedOf_61 : decode cX10_expectedOf 61 = .ok (.ireturn, 1) := by decide +kernel
set_option maxRecDepth 20000 in
theorem ggX10_oddsInPlace_X3_shareOf : GoodIn wsX10_oddsInPlace wsX3_shareOf := goodIn_r _ [10, 11, 12, 13, 14, 36, 37, 38, 39, 40, 41, 42] (by decide +kernel) (by decide +kernel)
set_option maxRecDepth 20000 in
theorem gX10_oddsInPlace_X3_shareOf : GoodIn wsX10_oddsInPlace (wsV RX10 126 RX3 yX3_shareOf wsX3_shareOf) := goodIn_app (goodIn_of _ (by decide +kernel)) ggX10_oddsInPlace_X3_shareOf
set_option maxRecDepth 20000 in
theorem ggX10_oddsInPlace_X6_oddsOf : GoodIn wsX10_oddsInPlace wsX6_oddsOf := goodIn_r _ [19, 20, 12, 13, 14, 43, 44] (by decide +kernel) (by decide +kernel)
set_option maxRecDepth 20000 in
theorem gX10_oddsInPlace_X6_oddsOf : GoodIn wsX10_oddsInPlace (wsV RX10 202 RX6 yX6_oddsOf wsX6_oddsOf) := goodIn_app (goodIn_of _ (by decide +kernel)) ggX10_oddsInPlace_X6_oddsOf
theorem dX10_oddsInPlace_0 : decode cX10_oddsInPlace 0 = .ok (.aload_n 0, 1) := by decide +kernel
theorem dX10_oddsInPlace_1 : decode cX10_oddsInPlace 1 = .ok (.getfield 57, 3) := by decide +kernel
theorem dX10_oddsInPlace_4 : decode cX10_oddsInPlace 4 = .ok (.iconst (-1), 1) := by decide +kernel
theorem dX10_oddsInPlace_5 : decode cX10_oddsInPlace 5 = .ok (.if_icmp .ne 13, 3) := by decide +kernel
theorem dX10_oddsInPlace_8 : decode cX10_oddsInPlace 8 = .ok (.aload_n 0, 1) := by decide +kernel
theorem dX10_oddsInPlace_9 : decode cX10_oddsInPlace 9 = .ok (.getfield 10, 3) := by decide +kernel
theorem dX10_oddsInPlace_12 : decode cX10_oddsInPlace 12 = .ok (.iload_n 1, 1) := by decide +kernel
theorem dX10_oddsInPlace_13 : decode cX10_oddsInPlace 13 = .ok (.iload_n 2, 1) := by decide +kernel
theorem dX10_oddsInPlace_14 : decode cX10_oddsInPlace 14 = .ok (.invokevirtual 126, 3) := by decide +kernel
theorem dX10_oddsInPlace_17 : decode cX10_oddsInPlace 17 = .ok (.ireturn, 1) := by decide +kernel
theorem dX10_oddsInPlace_18 : decode cX10_oddsInPlace 18 = .ok (.aload_n 0, 1) := by decide +kernel
theorem dX10_oddsInPlace_19 : decode cX10_oddsInPlace 19 = .ok (.getfield 26, 3) := by decide +kernel
theorem dX10_oddsInPlace_22 : decode cX10_oddsInPlace 22 = .ok (.getfield 138, 3) := by decide +kernel
theorem dX10_oddsInPlace_25 : decode cX10_oddsInPlace 25 = .ok (.aload_n 0, 1) := by decide +kernel
theorem dX10_oddsInPlace_26 : decode cX10_oddsInPlace 26 = .ok (.getfield 57, 3) := by decide +kernel
theorem dX10_oddsInPlace_29 : decode cX10_oddsInPlace 29 = .ok (.aload_n 0, 1) := by decide +kernel
theorem dX10_oddsInPlace_30 : decode cX10_oddsInPlace 30 = .ok (.getfield 61, 3) := by decide +kernel
theorem dX10_oddsInPlace_33 : decode cX10_oddsInPlace 33 = .ok (.iload_n 2, 1) := by decide +kernel
theorem dX10_oddsInPlace_34 : decode cX10_oddsInPlace 34 = .ok (.invokevirtual 202, 3) := by decide +kernel
theorem dX10_oddsInPlace_37 : decode cX10_oddsInPlace 37 = .ok (.ireturn, 1) := by decide +kernel
set_option maxRecDepth 20000 in
theorem ggX10_mayHang_X1_find : GoodIn wsX10_mayHang wsX1_find := goodIn_r _ [10, 11, 12, 13, 14, 9, 15, 16, 17, 18, 19, 20, 21, 22, 23, 73, 74] (by decide +kernel) (by decide +kernel)
set_option maxRecDepth 20000 in
theorem gX10_mayHang_X1_find : GoodIn wsX10_mayHang (wsV RX10 322 RX1 yX1_find wsX1_find) := goodIn_app (goodIn_of _ (by decide +kernel)) ggX10_mayHang_X1_find
set_option maxRecDepth 20000 in
theorem ggX10_mayHang_X0_isOf : GoodIn wsX10_mayHang wsX0_isOf := goodIn_r _ [28, 29, 30, 75, 76, 77, 78] (by decide +kernel) (by decide +kernel)
set_option maxRecDepth 20000 in
theorem gX10_mayHang_X0_isOf : GoodIn wsX10_mayHang (wsV RX10 283 RX0 yX0_isOf wsX0_isOf) := goodIn_app (goodIn_of _ (by decide +kernel)) ggX10_mayHang_X0_isOf
set_option maxRecDepth 20000 in
theorem ggX10_mayHang_X2_kindOf : GoodIn wsX10_mayHang wsX2_kindOf := goodIn_r _ [35, 36, 37, 38, 39, 34, 40, 41, 79, 80, 81, 82, 83, 84, 85, 86] (by decide +kernel) (by decide +kernel)
set_option maxRecDepth 20000 in
theorem gX10_mayHang_X2_kindOf : GoodIn wsX10_mayHang (wsV RX10 325 RX2 yX2_kindOf wsX2_kindOf) := goodIn_app (goodIn_of _ (by decide +kernel)) ggX10_mayHang_X2_kindOf
set_option maxRecDepth 20000 in
theorem ggX10_mayHang_X3_isOfKind : GoodIn wsX10_mayHang wsX3_isOfKind := goodIn_r _ [46, 47, 48, 49, 50, 45, 51, 52, 87, 88, 89, 90, 91, 92, 93] (by decide +kernel) (by decide +kernel)
set_option maxRecDepth 20000 in
theorem gX10_mayHang_X3_isOfKind : GoodIn wsX10_mayHang (wsV RX10 328 RX3 yX3_isOfKind wsX3_isOfKind) := goodIn_app (goodIn_of _ (by decide +kernel)) ggX10_mayHang_X3_isOfKind
set_option maxRecDepth 20000 in
theorem ggX10_mayHang_X2_ownerOn : GoodIn wsX10_mayHang wsX2_ownerOn := goodIn_r _ [56, 41, 57, 79, 80, 81, 82, 83, 84, 85, 86] (by decide +kernel) (by decide +kernel)
set_option maxRecDepth 20000 in
theorem gX10_mayHang_X2_ownerOn : GoodIn wsX10_mayHang (wsV RX10 120 RX2 yX2_ownerOn wsX2_ownerOn) := goodIn_app (goodIn_of _ (by decide +kernel)) ggX10_mayHang_X2_ownerOn
theorem dX10_mayHang_0 : decode cX10_mayHang 0 = .ok (.aload_n 0, 1) := by decide +kernel
theorem dX10_mayHang_1 : decode cX10_mayHang 1 = .ok (.getfield 26, 3) := by decide +kernel
theorem dX10_mayHang_4 : decode cX10_mayHang 4 = .ok (.getfield 78, 3) := by decide +kernel
theorem dX10_mayHang_7 : decode cX10_mayHang 7 = .ok (.iconst 0, 1) := by decide +kernel
theorem dX10_mayHang_8 : decode cX10_mayHang 8 = .ok (.iload_n 1, 1) := by decide +kernel
theorem dX10_mayHang_9 : decode cX10_mayHang 9 = .ok (.invokevirtual 322, 3) := by decide +kernel
theorem dX10_mayHang_12 : decode cX10_mayHang 12 = .ok (.iconst (-1), 1) := by decide +kernel
theorem dX10_mayHang_13 : decode cX10_mayHang 13 = .ok (.if_icmp .ne 17, 3) := by decide +kernel
theorem dX10_mayHang_16 : decode cX10_mayHang 16 = .ok (.aload_n 0, 1) := by decide +kernel
theorem dX10_mayHang_17 : decode cX10_mayHang 17 = .ok (.getfield 26, 3) := by decide +kernel
theorem dX10_mayHang_20 : decode cX10_mayHang 20 = .ok (.getfield 131, 3) := by decide +kernel
theorem dX10_mayHang_23 : decode cX10_mayHang 23 = .ok (.iload_n 1, 1) := by decide +kernel
theorem dX10_mayHang_24 : decode cX10_mayHang 24 = .ok (.invokevirtual 283, 3) := by decide +kernel
theorem dX10_mayHang_27 : decode cX10_mayHang 27 = .ok (.ifCond .eq 5, 3) := by decide +kernel
theorem dX10_mayHang_30 : decode cX10_mayHang 30 = .ok (.iconst 0, 1) := by decide +kernel
theorem dX10_mayHang_31 : decode cX10_mayHang 31 = .ok (.ireturn, 1) := by decide +kernel
theorem dX10_mayHang_32 : decode cX10_mayHang 32 = .ok (.aload_n 0, 1) := by decide +kernel
theorem dX10_mayHang_33 : decode cX10_mayHang 33 = .ok (.getfield 10, 3) := by decide +kernel
theorem dX10_mayHang_36 : decode cX10_mayHang 36 = .ok (.iload_n 2, 1) := by decide +kernel
theorem dX10_mayHang_37 : decode cX10_mayHang 37 = .ok (.aload_n 0, 1) := by decide +kernel
theorem dX10_mayHang_38 : decode cX10_mayHang 38 = .ok (.getfield 26, 3) := by decide +kernel
theorem dX10_mayHang_41 : decode cX10_mayHang 41 = .ok (.getfield 116, 3) := by decide +kernel
theorem dX10_mayHang_44 : decode cX10_mayHang 44 = .ok (.iload_n 1, 1) := by decide +kernel
theorem dX10_mayHang_45 : decode cX10_mayHang 45 = .ok (.invokevirtual 325, 3) := by decide +kernel
theorem dX10_mayHang_48 : decode cX10_mayHang 48 = .ok (.invokevirtual 328, 3) := by decide +kernel
theorem dX10_mayHang_51 : decode cX10_mayHang 51 = .ok (.ifCond .eq 22, 3) := by decide +kernel
theorem dX10_mayHang_54 : decode cX10_mayHang 54 = .ok (.aload_n 0, 1) := by decide +kernel
theorem dX10_mayHang_55 : decode cX10_mayHang 55 = .ok (.getfield 26, 3) := by decide +kernel
theorem dX10_mayHang_58 : decode cX10_mayHang 58 = .ok (.getfield 116, 3) := by decide +kernel
theorem dX10_mayHang_61 : decode cX10_mayHang 61 = .ok (.iload_n 2, 1) := by decide +kernel
theorem dX10_mayHang_62 : decode cX10_mayHang 62 = .ok (.invokevirtual 120, 3) := by decide +kernel
theorem dX10_mayHang_65 : decode cX10_mayHang 65 = .ok (.iconst (-1), 1) := by decide +kernel
theorem dX10_mayHang_66 : decode cX10_mayHang 66 = .ok (.if_icmp .ne 7, 3) := by decide +kernel
theorem dX10_mayHang_69 : decode cX10_mayHang 69 = .ok (.iconst 1, 1) := by decide +kernel
theorem dX10_mayHang_70 : decode cX10_mayHang 70 = .ok (.goto 4, 3) := by decide +kernel
theorem dX10_mayHang_73 : decode cX10_mayHang 73 = .ok (.iconst 0, 1) := by decide +kernel
theorem dX10_mayHang_74 : decode cX10_mayHang 74 = .ok (.ireturn, 1) := by decide +kernel
set_option maxRecDepth 20000 in
theorem ggX10_allHang_X2_hangs : GoodIn wsX10_allHang wsX2_hangs := goodIn_r _ [8, 9, 10, 11, 12, 7, 13, 14, 30, 31, 32, 33, 34, 35, 36, 37] (by decide +kernel) (by decide +kernel)
set_option maxRecDepth 20000 in
theorem gX10_allHang_X2_hangs : GoodIn wsX10_allHang (wsV RX10 331 RX2 yX2_hangs wsX2_hangs) := goodIn_app (goodIn_of _ (by decide +kernel)) ggX10_allHang_X2_hangs
theorem dX10_allHang_0 : decode cX10_allHang 0 = .ok (.iconst 0, 1) := by decide +kernel
theorem dX10_allHang_1 : decode cX10_allHang 1 = .ok (.istore_n 2, 1) := by decide +kernel
theorem dX10_allHang_2 : decode cX10_allHang 2 = .ok (.iconst 0, 1) := by decide +kernel
theorem dX10_allHang_3 : decode cX10_allHang 3 = .ok (.istore_n 3, 1) := by decide +kernel
theorem dX10_allHang_4 : decode cX10_allHang 4 = .ok (.iload_n 3, 1) := by decide +kernel
theorem dX10_allHang_5 : decode cX10_allHang 5 = .ok (.aload_n 0, 1) := by decide +kernel
theorem dX10_allHang_6 : decode cX10_allHang 6 = .ok (.getfield 26, 3) := by decide +kernel
theorem dX10_allHang_9 : decode cX10_allHang 9 = .ok (.getfield 116, 3) := by decide +kernel
theorem dX10_allHang_12 : decode cX10_allHang 12 = .ok (.getfield 130, 3) := by decide +kernel
theorem dX10_allHang_15 : decode cX10_allHang 15 = .ok (.if_icmp .ge 29, 3) := by decide +kernel
theorem dX10_allHang_18 : decode cX10_allHang 18 = .ok (.aload_n 0, 1) := by decide +kernel
theorem dX10_allHang_19 : decode cX10_allHang 19 = .ok (.getfield 26, 3) := by decide +kernel
theorem dX10_allHang_22 : decode cX10_allHang 22 = .ok (.getfield 116, 3) := by decide +kernel
theorem dX10_allHang_25 : decode cX10_allHang 25 = .ok (.iload_n 3, 1) := by decide +kernel
theorem dX10_allHang_26 : decode cX10_allHang 26 = .ok (.invokevirtual 331, 3) := by decide +kernel
theorem dX10_allHang_29 : decode cX10_allHang 29 = .ok (.ifCond .eq 9, 3) := by decide +kernel
theorem dX10_allHang_32 : decode cX10_allHang 32 = .ok (.iload_n 2, 1) := by decide +kernel
theorem dX10_allHang_33 : decode cX10_allHang 33 = .ok (.iconst 1, 1) := by decide +kernel
theorem dX10_allHang_34 : decode cX10_allHang 34 = .ok (.iload_n 3, 1) := by decide +kernel
theorem dX10_allHang_35 : decode cX10_allHang 35 = .ok (.ishl, 1) := by decide +kernel
theorem dX10_allHang_36 : decode cX10_allHang 36 = .ok (.ior, 1) := by decide +kernel
theorem dX10_allHang_37 : decode cX10_allHang 37 = .ok (.istore_n 2, 1) := by decide +kernel
theorem dX10_allHang_38 : decode cX10_allHang 38 = .ok (.iinc 3 1, 3) := by decide +kernel
theorem dX10_allHang_41 : decode cX10_allHang 41 = .ok (.goto (-37), 3) := by decide +kernel
theorem dX10_allHang_44 : decode cX10_allHang 44 = .ok (.iload_n 1, 1) := by decide +kernel
theorem dX10_allHang_45 : decode cX10_allHang 45 = .ok (.iload_n 2, 1) := by decide +kernel
theorem dX10_allHang_46 : decode cX10_allHang 46 = .ok (.iconst (-1), 1) := by decide +kernel
theorem dX10_allHang_47 : decode cX10_allHang 47 = .ok (.ixor, 1) := by decide +kernel
theorem dX10_allHang_48 : decode cX10_allHang 48 = .ok (.iand, 1) := by decide +kernel
theorem dX10_allHang_49 : decode cX10_allHang 49 = .ok (.ifCond .ne 7, 3) := by decide +kernel
theorem dX10_allHang_52 : decode cX10_allHang 52 = .ok (.iconst 1, 1) := by decide +kernel
theorem dX10_allHang_53 : decode cX10_allHang 53 = .ok (.goto 4, 3) := by decide +kernel
theorem dX10_allHang_56 : decode cX10_allHang 56 = .ok (.iconst 0, 1) := by decide +kernel
theorem dX10_allHang_57 : decode cX10_allHang 57 = .ok (.ireturn, 1) := by decide +kernel
set_option maxRecDepth 20000 in
theorem ggX11_init_X11_bare : GoodIn wsX11_init wsX11_bare := goodIn_r _ [46, 47, 48, 49, 13, 14, 56, 57, 58, 59, 60, 61, 62, 63, 64, 65, 66, 67, 68, 69, 70, 71, 72, 73, 74, 75, 76, 77, 78, 79, 80, 81, 82, 83, 84, 85, 86, 87, 88, 89, 90, 91, 92, 93, 94, 95, 96, 97, 98, 99, 100, 101, 102, 103, 104, 105, 106, 107, 108, 109, 110, 111, 112, 113] (by decide +kernel) (by decide +kernel)
set_option maxRecDepth 20000 in
theorem gX11_init_X11_bare : GoodIn wsX11_init (wsV RX11 118 RX11 yX11_bare wsX11_bare) := goodIn_app (goodIn_of _ (by decide +kernel)) ggX11_init_X11_bare
set_option maxRecDepth 20000 in
theorem ggX11_init_X11_keepHall : GoodIn wsX11_init wsX11_keepHall := goodIn_r _ [53, 47, 54, 5, 11, 6, 12, 7, 13, 8, 14, 55, 56, 57, 58, 59, 60, 61, 62, 63, 64, 65, 66, 67, 68, 69, 70, 71, 72, 73, 74, 75, 76, 77, 78, 79, 80, 81, 82, 83, 84, 85, 86, 87, 88, 89, 90, 91, 92, 93, 94, 95, 96, 97, 98, 99, 100, 101, 102, 103, 104, 105, 106, 107, 108, 109, 110, 111, 112, 113] (by decide +kernel) (by decide +kernel)
set_option maxRecDepth 20000 in
theorem gX11_init_X11_keepHall : GoodIn wsX11_init (wsV RX11 121 RX11 yX11_keepHall wsX11_keepHall) := goodIn_app (goodIn_of _ (by decide +kernel)) ggX11_init_X11_keepHall
theorem dX11_init_0 : decode cX11_init 0 = .ok (.aload_n 0, 1) := by decide +kernel
theorem dX11_init_1 : decode cX11_init 1 = .ok (.invokespecial 1, 3) := by decide +kernel
theorem dX11_init_4 : decode cX11_init 4 = .ok (.aload_n 0, 1) := by decide +kernel
theorem dX11_init_5 : decode cX11_init 5 = .ok (.bipush 24, 2) := by decide +kernel
theorem dX11_init_7 : decode cX11_init 7 = .ok (.newarray .int, 2) := by decide +kernel
theorem dX11_init_9 : decode cX11_init 9 = .ok (.putfield 7, 3) := by decide +kernel
theorem dX11_init_12 : decode cX11_init 12 = .ok (.aload_n 0, 1) := by decide +kernel
theorem dX11_init_13 : decode cX11_init 13 = .ok (.bipush 24, 2) := by decide +kernel
theorem dX11_init_15 : decode cX11_init 15 = .ok (.newarray .int, 2) := by decide +kernel
theorem dX11_init_17 : decode cX11_init 17 = .ok (.putfield 13, 3) := by decide +kernel
theorem dX11_init_20 : decode cX11_init 20 = .ok (.aload_n 0, 1) := by decide +kernel
theorem dX11_init_21 : decode cX11_init 21 = .ok (.bipush 12, 2) := by decide +kernel
theorem dX11_init_23 : decode cX11_init 23 = .ok (.newarray .int, 2) := by decide +kernel
theorem dX11_init_25 : decode cX11_init 25 = .ok (.putfield 16, 3) := by decide +kernel
theorem dX11_init_28 : decode cX11_init 28 = .ok (.aload_n 0, 1) := by decide +kernel
theorem dX11_init_29 : decode cX11_init 29 = .ok (.iconst 5, 1) := by decide +kernel
theorem dX11_init_30 : decode cX11_init 30 = .ok (.newarray .int, 2) := by decide +kernel
theorem dX11_init_32 : decode cX11_init 32 = .ok (.putfield 19, 3) := by decide +kernel
theorem dX11_init_35 : decode cX11_init 35 = .ok (.aload_n 0, 1) := by decide +kernel
theorem dX11_init_36 : decode cX11_init 36 = .ok (.sipush 240, 3) := by decide +kernel
theorem dX11_init_39 : decode cX11_init 39 = .ok (.newarray .int, 2) := by decide +kernel
theorem dX11_init_41 : decode cX11_init 41 = .ok (.putfield 22, 3) := by decide +kernel
theorem dX11_init_44 : decode cX11_init 44 = .ok (.aload_n 0, 1) := by decide +kernel
theorem dX11_init_45 : decode cX11_init 45 = .ok (.iconst (-1), 1) := by decide +kernel
theorem dX11_init_46 : decode cX11_init 46 = .ok (.putfield 25, 3) := by decide +kernel
theorem dX11_init_49 : decode cX11_init 49 = .ok (.aload_n 0, 1) := by decide +kernel
theorem dX11_init_50 : decode cX11_init 50 = .ok (.bipush 24, 2) := by decide +kernel
theorem dX11_init_52 : decode cX11_init 52 = .ok (.newarray .int, 2) := by decide +kernel
theorem dX11_init_54 : decode cX11_init 54 = .ok (.putfield 29, 3) := by decide +kernel
theorem dX11_init_57 : decode cX11_init 57 = .ok (.aload_n 0, 1) := by decide +kernel
theorem dX11_init_58 : decode cX11_init 58 = .ok (.bipush 24, 2) := by decide +kernel
theorem dX11_init_60 : decode cX11_init 60 = .ok (.newarray .int, 2) := by decide +kernel
theorem dX11_init_62 : decode cX11_init 62 = .ok (.putfield 32, 3) := by decide +kernel
theorem dX11_init_65 : decode cX11_init 65 = .ok (.aload_n 0, 1) := by decide +kernel
theorem dX11_init_66 : decode cX11_init 66 = .ok (.bipush 12, 2) := by decide +kernel
theorem dX11_init_68 : decode cX11_init 68 = .ok (.newarray .int, 2) := by decide +kernel
theorem dX11_init_70 : decode cX11_init 70 = .ok (.putfield 35, 3) := by decide +kernel
theorem dX11_init_73 : decode cX11_init 73 = .ok (.aload_n 0, 1) := by decide +kernel
theorem dX11_init_74 : decode cX11_init 74 = .ok (.iconst 5, 1) := by decide +kernel
theorem dX11_init_75 : decode cX11_init 75 = .ok (.newarray .int, 2) := by decide +kernel
theorem dX11_init_77 : decode cX11_init 77 = .ok (.putfield 38, 3) := by decide +kernel
theorem dX11_init_80 : decode cX11_init 80 = .ok (.aload_n 0, 1) := by decide +kernel
theorem dX11_init_81 : decode cX11_init 81 = .ok (.bipush 24, 2) := by decide +kernel
theorem dX11_init_83 : decode cX11_init 83 = .ok (.newarray .int, 2) := by decide +kernel
theorem dX11_init_85 : decode cX11_init 85 = .ok (.putfield 41, 3) := by decide +kernel
theorem dX11_init_88 : decode cX11_init 88 = .ok (.aload_n 0, 1) := by decide +kernel
theorem dX11_init_89 : decode cX11_init 89 = .ok (.bipush 16, 2) := by decide +kernel
theorem dX11_init_91 : decode cX11_init 91 = .ok (.newarray .int, 2) := by decide +kernel
theorem dX11_init_93 : decode cX11_init 93 = .ok (.putfield 44, 3) := by decide +kernel
theorem dX11_init_96 : decode cX11_init 96 = .ok (.aload_n 0, 1) := by decide +kernel
theorem dX11_init_97 : decode cX11_init 97 = .ok (.bipush 16, 2) := by decide +kernel
theorem dX11_init_99 : decode cX11_init 99 = .ok (.newarray .int, 2) := by decide +kernel
theorem dX11_init_101 : decode cX11_init 101 = .ok (.putfield 47, 3) := by decide +kernel
theorem dX11_init_104 : decode cX11_init 104 = .ok (.aload_n 0, 1) := by decide +kernel
theorem dX11_init_105 : decode cX11_init 105 = .ok (.bipush 16, 2) := by decide +kernel
theorem dX11_init_107 : decode cX11_init 107 = .ok (.newarray .int, 2) := by decide +kernel
theorem dX11_init_109 : decode cX11_init 109 = .ok (.putfield 50, 3) := by decide +kernel
theorem dX11_init_112 : decode cX11_init 112 = .ok (.aload_n 0, 1) := by decide +kernel
theorem dX11_init_113 : decode cX11_init 113 = .ok (.bipush 16, 2) := by decide +kernel
theorem dX11_init_115 : decode cX11_init 115 = .ok (.newarray .int, 2) := by decide +kernel
theorem dX11_init_117 : decode cX11_init 117 = .ok (.putfield 53, 3) := by decide +kernel
theorem dX11_init_120 : decode cX11_init 120 = .ok (.aload_n 0, 1) := by decide +kernel
theorem dX11_init_121 : decode cX11_init 121 = .ok (.bipush 16, 2) := by decide +kernel
theorem dX11_init_123 : decode cX11_init 123 = .ok (.newarray .int, 2) := by decide +kernel
theorem dX11_init_125 : decode cX11_init 125 = .ok (.putfield 56, 3) := by decide +kernel
theorem dX11_init_128 : decode cX11_init 128 = .ok (.aload_n 0, 1) := by decide +kernel
theorem dX11_init_129 : decode cX11_init 129 = .ok (.bipush 16, 2) := by decide +kernel
theorem dX11_init_131 : decode cX11_init 131 = .ok (.newarray .int, 2) := by decide +kernel
theorem dX11_init_133 : decode cX11_init 133 = .ok (.putfield 59, 3) := by decide +kernel
theorem dX11_init_136 : decode cX11_init 136 = .ok (.aload_n 0, 1) := by decide +kernel
theorem dX11_init_137 : decode cX11_init 137 = .ok (.bipush 16, 2) := by decide +kernel
theorem dX11_init_139 : decode cX11_init 139 = .ok (.newarray .int, 2) := by decide +kernel
theorem dX11_init_141 : decode cX11_init 141 = .ok (.putfield 62, 3) := by decide +kernel
theorem dX11_init_144 : decode cX11_init 144 = .ok (.aload_n 0, 1) := by decide +kernel
theorem dX11_init_145 : decode cX11_init 145 = .ok (.iconst (-1), 1) := by decide +kernel
theorem dX11_init_146 : decode cX11_init 146 = .ok (.putfield 65, 3) := by decide +kernel
theorem dX11_init_149 : decode cX11_init 149 = .ok (.aload_n 0, 1) := by decide +kernel
theorem dX11_init_150 : decode cX11_init 150 = .ok (.bipush 16, 2) := by decide +kernel
theorem dX11_init_152 : decode cX11_init 152 = .ok (.newarray .int, 2) := by decide +kernel
theorem dX11_init_154 : decode cX11_init 154 = .ok (.putfield 68, 3) := by decide +kernel
theorem dX11_init_157 : decode cX11_init 157 = .ok (.aload_n 0, 1) := by decide +kernel
theorem dX11_init_158 : decode cX11_init 158 = .ok (.bipush 24, 2) := by decide +kernel
theorem dX11_init_160 : decode cX11_init 160 = .ok (.newarray .boolean, 2) := by decide +kernel
theorem dX11_init_162 : decode cX11_init 162 = .ok (.putfield 71, 3) := by decide +kernel
theorem dX11_init_165 : decode cX11_init 165 = .ok (.aload_n 0, 1) := by decide +kernel
theorem dX11_init_166 : decode cX11_init 166 = .ok (.bipush 60, 2) := by decide +kernel
theorem dX11_init_168 : decode cX11_init 168 = .ok (.newarray .int, 2) := by decide +kernel
theorem dX11_init_170 : decode cX11_init 170 = .ok (.putfield 75, 3) := by decide +kernel
theorem dX11_init_173 : decode cX11_init 173 = .ok (.aload_n 0, 1) := by decide +kernel
theorem dX11_init_174 : decode cX11_init 174 = .ok (.bipush 60, 2) := by decide +kernel
theorem dX11_init_176 : decode cX11_init 176 = .ok (.newarray .int, 2) := by decide +kernel
theorem dX11_init_178 : decode cX11_init 178 = .ok (.putfield 78, 3) := by decide +kernel
theorem dX11_init_181 : decode cX11_init 181 = .ok (.aload_n 0, 1) := by decide +kernel
theorem dX11_init_182 : decode cX11_init 182 = .ok (.sipush 180, 3) := by decide +kernel
theorem dX11_init_185 : decode cX11_init 185 = .ok (.newarray .int, 2) := by decide +kernel
theorem dX11_init_187 : decode cX11_init 187 = .ok (.putfield 81, 3) := by decide +kernel
theorem dX11_init_190 : decode cX11_init 190 = .ok (.aload_n 0, 1) := by decide +kernel
theorem dX11_init_191 : decode cX11_init 191 = .ok (.sipush 420, 3) := by decide +kernel
theorem dX11_init_194 : decode cX11_init 194 = .ok (.newarray .int, 2) := by decide +kernel
theorem dX11_init_196 : decode cX11_init 196 = .ok (.putfield 84, 3) := by decide +kernel
theorem dX11_init_199 : decode cX11_init 199 = .ok (.aload_n 0, 1) := by decide +kernel
theorem dX11_init_200 : decode cX11_init 200 = .ok (.bipush 17, 2) := by decide +kernel
theorem dX11_init_202 : decode cX11_init 202 = .ok (.newarray .int, 2) := by decide +kernel
theorem dX11_init_204 : decode cX11_init 204 = .ok (.putfield 87, 3) := by decide +kernel
theorem dX11_init_207 : decode cX11_init 207 = .ok (.aload_n 0, 1) := by decide +kernel
theorem dX11_init_208 : decode cX11_init 208 = .ok (.bipush 16, 2) := by decide +kernel
theorem dX11_init_210 : decode cX11_init 210 = .ok (.newarray .int, 2) := by decide +kernel
theorem dX11_init_212 : decode cX11_init 212 = .ok (.putfield 90, 3) := by decide +kernel
theorem dX11_init_215 : decode cX11_init 215 = .ok (.aload_n 0, 1) := by decide +kernel
theorem dX11_init_216 : decode cX11_init 216 = .ok (.iconst 4, 1) := by decide +kernel
theorem dX11_init_217 : decode cX11_init 217 = .ok (.newarray .int, 2) := by decide +kernel
theorem dX11_init_219 : decode cX11_init 219 = .ok (.putfield 93, 3) := by decide +kernel
theorem dX11_init_222 : decode cX11_init 222 = .ok (.aload_n 0, 1) := by decide +kernel
theorem dX11_init_223 : decode cX11_init 223 = .ok (.bipush 7, 2) := by decide +kernel
