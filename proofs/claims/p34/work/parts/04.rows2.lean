theorem dX3_shareOf_30 : decode cX3_shareOf 30 = .ok (.ireturn, 1) := by decide +kernel
set_option maxRecDepth 20000 in
theorem ggX3_weightOf_X10_within : GoodIn wsX3_weightOf wsX10_within := goodIn_r _ [4] (by decide +kernel) (by decide +kernel)
set_option maxRecDepth 20000 in
theorem gX3_weightOf_X10_within_n42 : GoodIn wsX3_weightOf (wsX10_within) := ggX3_weightOf_X10_within
theorem dX3_weightOf_0 : decode cX3_weightOf 0 = .ok (.iload_n 1, 1) := by decide +kernel
theorem dX3_weightOf_1 : decode cX3_weightOf 1 = .ok (.iconst 0, 1) := by decide +kernel
theorem dX3_weightOf_2 : decode cX3_weightOf 2 = .ok (.iconst 2, 1) := by decide +kernel
theorem dX3_weightOf_3 : decode cX3_weightOf 3 = .ok (.invokestatic 42, 3) := by decide +kernel
theorem dX3_weightOf_6 : decode cX3_weightOf 6 = .ok (.ifCond .eq 12, 3) := by decide +kernel
theorem dX3_weightOf_9 : decode cX3_weightOf 9 = .ok (.aload_n 0, 1) := by decide +kernel
theorem dX3_weightOf_10 : decode cX3_weightOf 10 = .ok (.getfield 21, 3) := by decide +kernel
theorem dX3_weightOf_13 : decode cX3_weightOf 13 = .ok (.iload_n 1, 1) := by decide +kernel
theorem dX3_weightOf_14 : decode cX3_weightOf 14 = .ok (.iaload, 1) := by decide +kernel
theorem dX3_weightOf_15 : decode cX3_weightOf 15 = .ok (.goto 4, 3) := by decide +kernel
theorem dX3_weightOf_18 : decode cX3_weightOf 18 = .ok (.iconst 0, 1) := by decide +kernel
theorem dX3_weightOf_19 : decode cX3_weightOf 19 = .ok (.ireturn, 1) := by decide +kernel
set_option maxRecDepth 20000 in
theorem ggX4_init_X2_init : GoodIn wsX4_init wsX2_init := goodIn_r _ [22, 23, 2, 3, 24, 25, 26, 27, 28, 29, 30, 31, 32, 50, 51, 52, 53, 54, 55, 56, 57] (by decide +kernel) (by decide +kernel)
set_option maxRecDepth 20000 in
theorem gX4_init_X2_init_n9 : GoodIn wsX4_init (wsX2_init) := ggX4_init_X2_init
set_option maxRecDepth 20000 in
theorem ggX4_init_X1_init : GoodIn wsX4_init wsX1_init := goodIn_r _ [34, 35, 2, 3, 36, 25, 37, 63, 64] (by decide +kernel) (by decide +kernel)
set_option maxRecDepth 20000 in
theorem gX4_init_X1_init_n18 : GoodIn wsX4_init (wsX1_init) := ggX4_init_X1_init
set_option maxRecDepth 20000 in
theorem ggX4_init_X0_init : GoodIn wsX4_init wsX0_init := goodIn_r _ [39, 40, 2, 3, 41, 25, 42, 43, 44, 65, 66, 67, 68] (by decide +kernel) (by decide +kernel)
set_option maxRecDepth 20000 in
theorem gX4_init_X0_init_n25 : GoodIn wsX4_init (wsX0_init) := ggX4_init_X0_init
set_option maxRecDepth 20000 in
theorem ggX4_init_X6_init : GoodIn wsX4_init wsX6_init := goodIn_r _ [46, 47, 2, 3, 48, 25, 49, 69, 70] (by decide +kernel) (by decide +kernel)
set_option maxRecDepth 20000 in
theorem gX4_init_X6_init_n32 : GoodIn wsX4_init (wsX6_init) := ggX4_init_X6_init
theorem dX4_init_0 : decode cX4_init 0 = .ok (.aload_n 0, 1) := by decide +kernel
theorem dX4_init_1 : decode cX4_init 1 = .ok (.invokespecial 1, 3) := by decide +kernel
theorem dX4_init_4 : decode cX4_init 4 = .ok (.aload_n 0, 1) := by decide +kernel
theorem dX4_init_5 : decode cX4_init 5 = .ok (.new 7, 3) := by decide +kernel
theorem dX4_init_8 : decode cX4_init 8 = .ok (.dup, 1) := by decide +kernel
theorem dX4_init_9 : decode cX4_init 9 = .ok (.invokespecial 9, 3) := by decide +kernel
theorem dX4_init_12 : decode cX4_init 12 = .ok (.putfield 10, 3) := by decide +kernel
theorem dX4_init_15 : decode cX4_init 15 = .ok (.aload_n 0, 1) := by decide +kernel
theorem dX4_init_16 : decode cX4_init 16 = .ok (.new 16, 3) := by decide +kernel
theorem dX4_init_19 : decode cX4_init 19 = .ok (.dup, 1) := by decide +kernel
theorem dX4_init_20 : decode cX4_init 20 = .ok (.invokespecial 18, 3) := by decide +kernel
theorem dX4_init_23 : decode cX4_init 23 = .ok (.putfield 19, 3) := by decide +kernel
theorem dX4_init_26 : decode cX4_init 26 = .ok (.aload_n 0, 1) := by decide +kernel
theorem dX4_init_27 : decode cX4_init 27 = .ok (.new 23, 3) := by decide +kernel
theorem dX4_init_30 : decode cX4_init 30 = .ok (.dup, 1) := by decide +kernel
theorem dX4_init_31 : decode cX4_init 31 = .ok (.invokespecial 25, 3) := by decide +kernel
theorem dX4_init_34 : decode cX4_init 34 = .ok (.putfield 26, 3) := by decide +kernel
theorem dX4_init_37 : decode cX4_init 37 = .ok (.aload_n 0, 1) := by decide +kernel
theorem dX4_init_38 : decode cX4_init 38 = .ok (.new 30, 3) := by decide +kernel
theorem dX4_init_41 : decode cX4_init 41 = .ok (.dup, 1) := by decide +kernel
theorem dX4_init_42 : decode cX4_init 42 = .ok (.invokespecial 32, 3) := by decide +kernel
theorem dX4_init_45 : decode cX4_init 45 = .ok (.putfield 33, 3) := by decide +kernel
theorem dX4_init_48 : decode cX4_init 48 = .ok (.aload_n 0, 1) := by decide +kernel
theorem dX4_init_49 : decode cX4_init 49 = .ok (.iconst 0, 1) := by decide +kernel
theorem dX4_init_50 : decode cX4_init 50 = .ok (.putfield 37, 3) := by decide +kernel
theorem dX4_init_53 : decode cX4_init 53 = .ok (.return_, 1) := by decide +kernel
set_option maxRecDepth 20000 in
theorem ggX4_copyFrom_X2_copyFrom : GoodIn wsX4_copyFrom wsX2_copyFrom := goodIn_r _ [9, 10, 11, 12, 13, 14, 15, 16, 17, 18, 19, 20, 21, 53, 54, 55, 56, 57, 58, 59, 60] (by decide +kernel) (by decide +kernel)
set_option maxRecDepth 20000 in
theorem gX4_copyFrom_X2_copyFrom : GoodIn wsX4_copyFrom (wsV RX4 41 RX2 yX2_copyFrom wsX2_copyFrom) := goodIn_app (goodIn_of _ (by decide +kernel)) ggX4_copyFrom_X2_copyFrom
set_option maxRecDepth 20000 in
theorem ggX4_copyFrom_X1_copyFrom : GoodIn wsX4_copyFrom wsX1_copyFrom := goodIn_r _ [26, 27, 28, 29, 13, 14, 15, 61, 62] (by decide +kernel) (by decide +kernel)
set_option maxRecDepth 20000 in
theorem gX4_copyFrom_X1_copyFrom : GoodIn wsX4_copyFrom (wsV RX4 45 RX1 yX1_copyFrom wsX1_copyFrom) := goodIn_app (goodIn_of _ (by decide +kernel)) ggX4_copyFrom_X1_copyFrom
set_option maxRecDepth 20000 in
theorem ggX4_copyFrom_X0_copyFrom : GoodIn wsX4_copyFrom wsX0_copyFrom := goodIn_r _ [34, 35, 36, 37, 13, 14, 15, 38, 39, 63, 64, 65, 66] (by decide +kernel) (by decide +kernel)
set_option maxRecDepth 20000 in
theorem gX4_copyFrom_X0_copyFrom : GoodIn wsX4_copyFrom (wsV RX4 48 RX0 yX0_copyFrom wsX0_copyFrom) := goodIn_app (goodIn_of _ (by decide +kernel)) ggX4_copyFrom_X0_copyFrom
set_option maxRecDepth 20000 in
theorem ggX4_copyFrom_X6_copyFrom : GoodIn wsX4_copyFrom wsX6_copyFrom := goodIn_r _ [44, 45, 46, 47, 13, 14, 15, 67, 68] (by decide +kernel) (by decide +kernel)
set_option maxRecDepth 20000 in
theorem gX4_copyFrom_X6_copyFrom : GoodIn wsX4_copyFrom (wsV RX4 51 RX6 yX6_copyFrom wsX6_copyFrom) := goodIn_app (goodIn_of _ (by decide +kernel)) ggX4_copyFrom_X6_copyFrom
theorem dX4_copyFrom_0 : decode cX4_copyFrom 0 = .ok (.aload_n 0, 1) := by decide +kernel
theorem dX4_copyFrom_1 : decode cX4_copyFrom 1 = .ok (.getfield 10, 3) := by decide +kernel
theorem dX4_copyFrom_4 : decode cX4_copyFrom 4 = .ok (.aload_n 1, 1) := by decide +kernel
theorem dX4_copyFrom_5 : decode cX4_copyFrom 5 = .ok (.getfield 10, 3) := by decide +kernel
theorem dX4_copyFrom_8 : decode cX4_copyFrom 8 = .ok (.invokevirtual 41, 3) := by decide +kernel
theorem dX4_copyFrom_11 : decode cX4_copyFrom 11 = .ok (.aload_n 0, 1) := by decide +kernel
theorem dX4_copyFrom_12 : decode cX4_copyFrom 12 = .ok (.getfield 19, 3) := by decide +kernel
theorem dX4_copyFrom_15 : decode cX4_copyFrom 15 = .ok (.aload_n 1, 1) := by decide +kernel
theorem dX4_copyFrom_16 : decode cX4_copyFrom 16 = .ok (.getfield 19, 3) := by decide +kernel
theorem dX4_copyFrom_19 : decode cX4_copyFrom 19 = .ok (.invokevirtual 45, 3) := by decide +kernel
theorem dX4_copyFrom_22 : decode cX4_copyFrom 22 = .ok (.aload_n 0, 1) := by decide +kernel
theorem dX4_copyFrom_23 : decode cX4_copyFrom 23 = .ok (.getfield 26, 3) := by decide +kernel
theorem dX4_copyFrom_26 : decode cX4_copyFrom 26 = .ok (.aload_n 1, 1) := by decide +kernel
theorem dX4_copyFrom_27 : decode cX4_copyFrom 27 = .ok (.getfield 26, 3) := by decide +kernel
theorem dX4_copyFrom_30 : decode cX4_copyFrom 30 = .ok (.invokevirtual 48, 3) := by decide +kernel
theorem dX4_copyFrom_33 : decode cX4_copyFrom 33 = .ok (.aload_n 0, 1) := by decide +kernel
theorem dX4_copyFrom_34 : decode cX4_copyFrom 34 = .ok (.getfield 33, 3) := by decide +kernel
theorem dX4_copyFrom_37 : decode cX4_copyFrom 37 = .ok (.aload_n 1, 1) := by decide +kernel
theorem dX4_copyFrom_38 : decode cX4_copyFrom 38 = .ok (.getfield 33, 3) := by decide +kernel
theorem dX4_copyFrom_41 : decode cX4_copyFrom 41 = .ok (.invokevirtual 51, 3) := by decide +kernel
theorem dX4_copyFrom_44 : decode cX4_copyFrom 44 = .ok (.return_, 1) := by decide +kernel
theorem dX5_init_0 : decode cX5_init 0 = .ok (.aload_n 0, 1) := by decide +kernel
theorem dX5_init_1 : decode cX5_init 1 = .ok (.invokespecial 3, 3) := by decide +kernel
theorem dX5_init_4 : decode cX5_init 4 = .ok (.aload_n 0, 1) := by decide +kernel
theorem dX5_init_5 : decode cX5_init 5 = .ok (.bipush 6, 2) := by decide +kernel
theorem dX5_init_7 : decode cX5_init 7 = .ok (.newarray .int, 2) := by decide +kernel
theorem dX5_init_9 : decode cX5_init 9 = .ok (.putfield 9, 3) := by decide +kernel
theorem dX5_init_12 : decode cX5_init 12 = .ok (.aload_n 0, 1) := by decide +kernel
theorem dX5_init_13 : decode cX5_init 13 = .ok (.bipush 64, 2) := by decide +kernel
theorem dX5_init_15 : decode cX5_init 15 = .ok (.newarray .long, 2) := by decide +kernel
theorem dX5_init_17 : decode cX5_init 17 = .ok (.putfield 15, 3) := by decide +kernel
theorem dX5_init_20 : decode cX5_init 20 = .ok (.aload_n 0, 1) := by decide +kernel
theorem dX5_init_21 : decode cX5_init 21 = .ok (.iconst 0, 1) := by decide +kernel
theorem dX5_init_22 : decode cX5_init 22 = .ok (.putfield 19, 3) := by decide +kernel
theorem dX5_init_25 : decode cX5_init 25 = .ok (.return_, 1) := by decide +kernel
set_option maxRecDepth 20000 in
theorem ggX5_load_X0_thingsFor : GoodIn wsX5_load wsX0_thingsFor := goodIn_r _ [12, 13, 14, 15, 16, 17, 18, 19, 11, 20, 21, 22, 23, 24, 25, 26, 27, 28, 29, 30, 31, 32, 33, 34, 35, 36, 37, 38, 39, 40, 41, 42, 43, 44, 45, 46, 50, 51, 52, 53, 54, 55, 56, 57] (by decide +kernel) (by decide +kernel)
set_option maxRecDepth 20000 in
theorem gX5_load_X0_thingsFor : GoodIn wsX5_load (wsV RX5 34 RX0 yX0_thingsFor wsX0_thingsFor) := goodIn_app (goodIn_of _ (by decide +kernel)) ggX5_load_X0_thingsFor
theorem dX5_load_0 : decode cX5_load 0 = .ok (.aload_n 0, 1) := by decide +kernel
theorem dX5_load_1 : decode cX5_load 1 = .ok (.aload_n 1, 1) := by decide +kernel
theorem dX5_load_2 : decode cX5_load 2 = .ok (.getfield 23, 3) := by decide +kernel
theorem dX5_load_5 : decode cX5_load 5 = .ok (.bipush 6, 2) := by decide +kernel
theorem dX5_load_7 : decode cX5_load 7 = .ok (.invokestatic 28, 3) := by decide +kernel
theorem dX5_load_10 : decode cX5_load 10 = .ok (.putfield 19, 3) := by decide +kernel
theorem dX5_load_13 : decode cX5_load 13 = .ok (.iconst 0, 1) := by decide +kernel
theorem dX5_load_14 : decode cX5_load 14 = .ok (.istore_n 3, 1) := by decide +kernel
theorem dX5_load_15 : decode cX5_load 15 = .ok (.iload_n 3, 1) := by decide +kernel
theorem dX5_load_16 : decode cX5_load 16 = .ok (.aload_n 0, 1) := by decide +kernel
theorem dX5_load_17 : decode cX5_load 17 = .ok (.getfield 19, 3) := by decide +kernel
theorem dX5_load_20 : decode cX5_load 20 = .ok (.if_icmp .ge 21, 3) := by decide +kernel
theorem dX5_load_23 : decode cX5_load 23 = .ok (.aload_n 0, 1) := by decide +kernel
theorem dX5_load_24 : decode cX5_load 24 = .ok (.getfield 9, 3) := by decide +kernel
theorem dX5_load_27 : decode cX5_load 27 = .ok (.iload_n 3, 1) := by decide +kernel
theorem dX5_load_28 : decode cX5_load 28 = .ok (.aload_n 1, 1) := by decide +kernel
theorem dX5_load_29 : decode cX5_load 29 = .ok (.iload_n 3, 1) := by decide +kernel
theorem dX5_load_30 : decode cX5_load 30 = .ok (.aload_n 2, 1) := by decide +kernel
theorem dX5_load_31 : decode cX5_load 31 = .ok (.invokevirtual 34, 3) := by decide +kernel
theorem dX5_load_34 : decode cX5_load 34 = .ok (.iastore, 1) := by decide +kernel
theorem dX5_load_35 : decode cX5_load 35 = .ok (.iinc 3 1, 3) := by decide +kernel
theorem dX5_load_38 : decode cX5_load 38 = .ok (.goto (-23), 3) := by decide +kernel
theorem dX5_load_41 : decode cX5_load 41 = .ok (.return_, 1) := by decide +kernel
set_option maxRecDepth 20000 in
theorem ggX5_number_X5_addWays : GoodIn wsX5_number wsX5_addWays := goodIn_r _ [8, 1, 2, 3, 9, 10, 11] (by decide +kernel) (by decide +kernel)
set_option maxRecDepth 20000 in
theorem gX5_number_X5_addWays : GoodIn wsX5_number (wsV RX5 38 RX5 yX5_addWays wsX5_addWays) := goodIn_app (goodIn_of _ (by decide +kernel)) ggX5_number_X5_addWays
theorem dX5_number_0 : decode cX5_number 0 = .ok (.iconst 1, 1) := by decide +kernel
theorem dX5_number_1 : decode cX5_number 1 = .ok (.aload_n 0, 1) := by decide +kernel
theorem dX5_number_2 : decode cX5_number 2 = .ok (.getfield 19, 3) := by decide +kernel
theorem dX5_number_5 : decode cX5_number 5 = .ok (.ishl, 1) := by decide +kernel
theorem dX5_number_6 : decode cX5_number 6 = .ok (.iconst 1, 1) := by decide +kernel
theorem dX5_number_7 : decode cX5_number 7 = .ok (.isub, 1) := by decide +kernel
theorem dX5_number_8 : decode cX5_number 8 = .ok (.istore_n 1, 1) := by decide +kernel
theorem dX5_number_9 : decode cX5_number 9 = .ok (.iconst 0, 1) := by decide +kernel
theorem dX5_number_10 : decode cX5_number 10 = .ok (.istore_n 2, 1) := by decide +kernel
theorem dX5_number_11 : decode cX5_number 11 = .ok (.iconst 0, 1) := by decide +kernel
theorem dX5_number_12 : decode cX5_number 12 = .ok (.istore_n 3, 1) := by decide +kernel
theorem dX5_number_13 : decode cX5_number 13 = .ok (.iload_n 3, 1) := by decide +kernel
theorem dX5_number_14 : decode cX5_number 14 = .ok (.aload_n 0, 1) := by decide +kernel
theorem dX5_number_15 : decode cX5_number 15 = .ok (.getfield 19, 3) := by decide +kernel
theorem dX5_number_18 : decode cX5_number 18 = .ok (.if_icmp .ge 18, 3) := by decide +kernel
theorem dX5_number_21 : decode cX5_number 21 = .ok (.iload_n 2, 1) := by decide +kernel
theorem dX5_number_22 : decode cX5_number 22 = .ok (.aload_n 0, 1) := by decide +kernel
theorem dX5_number_23 : decode cX5_number 23 = .ok (.getfield 9, 3) := by decide +kernel
theorem dX5_number_26 : decode cX5_number 26 = .ok (.iload_n 3, 1) := by decide +kernel
theorem dX5_number_27 : decode cX5_number 27 = .ok (.iaload, 1) := by decide +kernel
theorem dX5_number_28 : decode cX5_number 28 = .ok (.ior, 1) := by decide +kernel
theorem dX5_number_29 : decode cX5_number 29 = .ok (.istore_n 2, 1) := by decide +kernel
theorem dX5_number_30 : decode cX5_number 30 = .ok (.iinc 3 1, 3) := by decide +kernel
theorem dX5_number_33 : decode cX5_number 33 = .ok (.goto (-20), 3) := by decide +kernel
theorem dX5_number_36 : decode cX5_number 36 = .ok (.iconst 0, 1) := by decide +kernel
theorem dX5_number_37 : decode cX5_number 37 = .ok (.istore_n 3, 1) := by decide +kernel
theorem dX5_number_38 : decode cX5_number 38 = .ok (.iload_n 3, 1) := by decide +kernel
theorem dX5_number_39 : decode cX5_number 39 = .ok (.iload_n 1, 1) := by decide +kernel
theorem dX5_number_40 : decode cX5_number 40 = .ok (.if_icmp .gt 16, 3) := by decide +kernel
theorem dX5_number_43 : decode cX5_number 43 = .ok (.aload_n 0, 1) := by decide +kernel
theorem dX5_number_44 : decode cX5_number 44 = .ok (.getfield 15, 3) := by decide +kernel
theorem dX5_number_47 : decode cX5_number 47 = .ok (.iload_n 3, 1) := by decide +kernel
theorem dX5_number_48 : decode cX5_number 48 = .ok (.lconst 0, 1) := by decide +kernel
theorem dX5_number_49 : decode cX5_number 49 = .ok (.lastore, 1) := by decide +kernel
theorem dX5_number_50 : decode cX5_number 50 = .ok (.iinc 3 1, 3) := by decide +kernel
theorem dX5_number_53 : decode cX5_number 53 = .ok (.goto (-15), 3) := by decide +kernel
theorem dX5_number_56 : decode cX5_number 56 = .ok (.aload_n 0, 1) := by decide +kernel
theorem dX5_number_57 : decode cX5_number 57 = .ok (.getfield 15, 3) := by decide +kernel
theorem dX5_number_60 : decode cX5_number 60 = .ok (.iconst 0, 1) := by decide +kernel
theorem dX5_number_61 : decode cX5_number 61 = .ok (.lconst 1, 1) := by decide +kernel
theorem dX5_number_62 : decode cX5_number 62 = .ok (.lastore, 1) := by decide +kernel
theorem dX5_number_63 : decode cX5_number 63 = .ok (.iconst 0, 1) := by decide +kernel
theorem dX5_number_64 : decode cX5_number 64 = .ok (.istore_n 3, 1) := by decide +kernel
theorem dX5_number_65 : decode cX5_number 65 = .ok (.iload_n 3, 1) := by decide +kernel
theorem dX5_number_66 : decode cX5_number 66 = .ok (.bipush 16, 2) := by decide +kernel
theorem dX5_number_68 : decode cX5_number 68 = .ok (.if_icmp .ge 41, 3) := by decide +kernel
theorem dX5_number_71 : decode cX5_number 71 = .ok (.iload_n 2, 1) := by decide +kernel
theorem dX5_number_72 : decode cX5_number 72 = .ok (.iload_n 3, 1) := by decide +kernel
theorem dX5_number_73 : decode cX5_number 73 = .ok (.ishr, 1) := by decide +kernel
theorem dX5_number_74 : decode cX5_number 74 = .ok (.iconst 1, 1) := by decide +kernel
theorem dX5_number_75 : decode cX5_number 75 = .ok (.iand, 1) := by decide +kernel
theorem dX5_number_76 : decode cX5_number 76 = .ok (.ifCond .ne 6, 3) := by decide +kernel
theorem dX5_number_79 : decode cX5_number 79 = .ok (.goto 24, 3) := by decide +kernel
theorem dX5_number_82 : decode cX5_number 82 = .ok (.iload_n 1, 1) := by decide +kernel
theorem dX5_number_83 : decode cX5_number 83 = .ok (.istore 4, 2) := by decide +kernel
theorem dX5_number_85 : decode cX5_number 85 = .ok (.iload 4, 2) := by decide +kernel
theorem dX5_number_87 : decode cX5_number 87 = .ok (.ifCond .le 16, 3) := by decide +kernel
theorem dX5_number_90 : decode cX5_number 90 = .ok (.aload_n 0, 1) := by decide +kernel
theorem dX5_number_91 : decode cX5_number 91 = .ok (.iload 4, 2) := by decide +kernel
theorem dX5_number_93 : decode cX5_number 93 = .ok (.iload_n 3, 1) := by decide +kernel
theorem dX5_number_94 : decode cX5_number 94 = .ok (.invokevirtual 38, 3) := by decide +kernel
theorem dX5_number_97 : decode cX5_number 97 = .ok (.iinc 4 (-1), 3) := by decide +kernel
theorem dX5_number_100 : decode cX5_number 100 = .ok (.goto (-15), 3) := by decide +kernel
theorem dX5_number_103 : decode cX5_number 103 = .ok (.iinc 3 1, 3) := by decide +kernel
theorem dX5_number_106 : decode cX5_number 106 = .ok (.goto (-41), 3) := by decide +kernel
theorem dX5_number_109 : decode cX5_number 109 = .ok (.aload_n 0, 1) := by decide +kernel
theorem dX5_number_110 : decode cX5_number 110 = .ok (.getfield 15, 3) := by decide +kernel
theorem dX5_number_113 : decode cX5_number 113 = .ok (.iload_n 1, 1) := by decide +kernel
theorem dX5_number_114 : decode cX5_number 114 = .ok (.laload, 1) := by decide +kernel
theorem dX5_number_115 : decode cX5_number 115 = .ok (.lreturn, 1) := by decide +kernel
theorem dX5_addWays_0 : decode cX5_addWays 0 = .ok (.iconst 0, 1) := by decide +kernel
theorem dX5_addWays_1 : decode cX5_addWays 1 = .ok (.istore_n 3, 1) := by decide +kernel
theorem dX5_addWays_2 : decode cX5_addWays 2 = .ok (.iload_n 3, 1) := by decide +kernel
theorem dX5_addWays_3 : decode cX5_addWays 3 = .ok (.aload_n 0, 1) := by decide +kernel
theorem dX5_addWays_4 : decode cX5_addWays 4 = .ok (.getfield 19, 3) := by decide +kernel
theorem dX5_addWays_7 : decode cX5_addWays 7 = .ok (.if_icmp .ge 63, 3) := by decide +kernel
theorem dX5_addWays_10 : decode cX5_addWays 10 = .ok (.iload_n 1, 1) := by decide +kernel
theorem dX5_addWays_11 : decode cX5_addWays 11 = .ok (.iload_n 3, 1) := by decide +kernel
theorem dX5_addWays_12 : decode cX5_addWays 12 = .ok (.ishr, 1) := by decide +kernel
theorem dX5_addWays_13 : decode cX5_addWays 13 = .ok (.iconst 1, 1) := by decide +kernel
theorem dX5_addWays_14 : decode cX5_addWays 14 = .ok (.iand, 1) := by decide +kernel
theorem dX5_addWays_15 : decode cX5_addWays 15 = .ok (.iconst 1, 1) := by decide +kernel
theorem dX5_addWays_16 : decode cX5_addWays 16 = .ok (.if_icmp .ne 21, 3) := by decide +kernel
theorem dX5_addWays_19 : decode cX5_addWays 19 = .ok (.aload_n 0, 1) := by decide +kernel
theorem dX5_addWays_20 : decode cX5_addWays 20 = .ok (.getfield 9, 3) := by decide +kernel
theorem dX5_addWays_23 : decode cX5_addWays 23 = .ok (.iload_n 3, 1) := by decide +kernel
theorem dX5_addWays_24 : decode cX5_addWays 24 = .ok (.iaload, 1) := by decide +kernel
theorem dX5_addWays_25 : decode cX5_addWays 25 = .ok (.iload_n 2, 1) := by decide +kernel
theorem dX5_addWays_26 : decode cX5_addWays 26 = .ok (.ishr, 1) := by decide +kernel
theorem dX5_addWays_27 : decode cX5_addWays 27 = .ok (.iconst 1, 1) := by decide +kernel
theorem dX5_addWays_28 : decode cX5_addWays 28 = .ok (.iand, 1) := by decide +kernel
theorem dX5_addWays_29 : decode cX5_addWays 29 = .ok (.iconst 1, 1) := by decide +kernel
theorem dX5_addWays_30 : decode cX5_addWays 30 = .ok (.if_icmp .ne 7, 3) := by decide +kernel
theorem dX5_addWays_33 : decode cX5_addWays 33 = .ok (.iconst 1, 1) := by decide +kernel
theorem dX5_addWays_34 : decode cX5_addWays 34 = .ok (.goto 4, 3) := by decide +kernel
theorem dX5_addWays_37 : decode cX5_addWays 37 = .ok (.iconst 0, 1) := by decide +kernel
theorem dX5_addWays_38 : decode cX5_addWays 38 = .ok (.istore 4, 2) := by decide +kernel
theorem dX5_addWays_40 : decode cX5_addWays 40 = .ok (.iload 4, 2) := by decide +kernel
theorem dX5_addWays_42 : decode cX5_addWays 42 = .ok (.ifCond .eq 22, 3) := by decide +kernel
theorem dX5_addWays_45 : decode cX5_addWays 45 = .ok (.aload_n 0, 1) := by decide +kernel
theorem dX5_addWays_46 : decode cX5_addWays 46 = .ok (.getfield 15, 3) := by decide +kernel
theorem dX5_addWays_49 : decode cX5_addWays 49 = .ok (.iload_n 1, 1) := by decide +kernel
theorem dX5_addWays_50 : decode cX5_addWays 50 = .ok (.dup2, 1) := by decide +kernel
theorem dX5_addWays_51 : decode cX5_addWays 51 = .ok (.laload, 1) := by decide +kernel
theorem dX5_addWays_52 : decode cX5_addWays 52 = .ok (.aload_n 0, 1) := by decide +kernel
theorem dX5_addWays_53 : decode cX5_addWays 53 = .ok (.getfield 15, 3) := by decide +kernel
theorem dX5_addWays_56 : decode cX5_addWays 56 = .ok (.iload_n 1, 1) := by decide +kernel
theorem dX5_addWays_57 : decode cX5_addWays 57 = .ok (.iconst 1, 1) := by decide +kernel
theorem dX5_addWays_58 : decode cX5_addWays 58 = .ok (.iload_n 3, 1) := by decide +kernel
theorem dX5_addWays_59 : decode cX5_addWays 59 = .ok (.ishl, 1) := by decide +kernel
theorem dX5_addWays_60 : decode cX5_addWays 60 = .ok (.ixor, 1) := by decide +kernel
theorem dX5_addWays_61 : decode cX5_addWays 61 = .ok (.laload, 1) := by decide +kernel
theorem dX5_addWays_62 : decode cX5_addWays 62 = .ok (.ladd, 1) := by decide +kernel
theorem dX5_addWays_63 : decode cX5_addWays 63 = .ok (.lastore, 1) := by decide +kernel
theorem dX5_addWays_64 : decode cX5_addWays 64 = .ok (.iinc 3 1, 3) := by decide +kernel
theorem dX5_addWays_67 : decode cX5_addWays 67 = .ok (.goto (-65), 3) := by decide +kernel
theorem dX5_addWays_70 : decode cX5_addWays 70 = .ok (.return_, 1) := by decide +kernel
set_option maxRecDepth 20000 in
theorem ggX5_onlyThingOf_X10_within : GoodIn wsX5_onlyThingOf wsX10_within := goodIn_r _ [5] (by decide +kernel) (by decide +kernel)
set_option maxRecDepth 20000 in
theorem gX5_onlyThingOf_X10_within_n42 : GoodIn wsX5_onlyThingOf (wsX10_within) := ggX5_onlyThingOf_X10_within
set_option maxRecDepth 20000 in
theorem ggX5_onlyThingOf_X5_number : GoodIn wsX5_onlyThingOf wsX5_number := goodIn_r _ [10, 1, 2, 11, 12, 13, 14, 9, 15, 16, 17, 18] (by decide +kernel) (by decide +kernel)
set_option maxRecDepth 20000 in
theorem gX5_onlyThingOf_X5_number : GoodIn wsX5_onlyThingOf (wsV RX5 46 RX5 yX5_number wsX5_number) := goodIn_app (goodIn_of _ (by decide +kernel)) ggX5_onlyThingOf_X5_number
theorem dX5_onlyThingOf_0 : decode cX5_onlyThingOf 0 = .ok (.iload_n 1, 1) := by decide +kernel
theorem dX5_onlyThingOf_1 : decode cX5_onlyThingOf 1 = .ok (.iconst 0, 1) := by decide +kernel
theorem dX5_onlyThingOf_2 : decode cX5_onlyThingOf 2 = .ok (.aload_n 0, 1) := by decide +kernel
theorem dX5_onlyThingOf_3 : decode cX5_onlyThingOf 3 = .ok (.getfield 19, 3) := by decide +kernel
theorem dX5_onlyThingOf_6 : decode cX5_onlyThingOf 6 = .ok (.iconst 1, 1) := by decide +kernel
theorem dX5_onlyThingOf_7 : decode cX5_onlyThingOf 7 = .ok (.isub, 1) := by decide +kernel
theorem dX5_onlyThingOf_8 : decode cX5_onlyThingOf 8 = .ok (.invokestatic 42, 3) := by decide +kernel
theorem dX5_onlyThingOf_11 : decode cX5_onlyThingOf 11 = .ok (.ifCond .ne 5, 3) := by decide +kernel
theorem dX5_onlyThingOf_14 : decode cX5_onlyThingOf 14 = .ok (.iconst (-1), 1) := by decide +kernel
theorem dX5_onlyThingOf_15 : decode cX5_onlyThingOf 15 = .ok (.ireturn, 1) := by decide +kernel
theorem dX5_onlyThingOf_16 : decode cX5_onlyThingOf 16 = .ok (.aload_n 0, 1) := by decide +kernel
theorem dX5_onlyThingOf_17 : decode cX5_onlyThingOf 17 = .ok (.invokevirtual 46, 3) := by decide +kernel
theorem dX5_onlyThingOf_20 : decode cX5_onlyThingOf 20 = .ok (.lconst 0, 1) := by decide +kernel
theorem dX5_onlyThingOf_21 : decode cX5_onlyThingOf 21 = .ok (.lcmp, 1) := by decide +kernel
theorem dX5_onlyThingOf_22 : decode cX5_onlyThingOf 22 = .ok (.ifCond .ne 5, 3) := by decide +kernel
theorem dX5_onlyThingOf_25 : decode cX5_onlyThingOf 25 = .ok (.iconst (-1), 1) := by decide +kernel
theorem dX5_onlyThingOf_26 : decode cX5_onlyThingOf 26 = .ok (.ireturn, 1) := by decide +kernel
theorem dX5_onlyThingOf_27 : decode cX5_onlyThingOf 27 = .ok (.aload_n 0, 1) := by decide +kernel
theorem dX5_onlyThingOf_28 : decode cX5_onlyThingOf 28 = .ok (.getfield 9, 3) := by decide +kernel
theorem dX5_onlyThingOf_31 : decode cX5_onlyThingOf 31 = .ok (.iload_n 1, 1) := by decide +kernel
theorem dX5_onlyThingOf_32 : decode cX5_onlyThingOf 32 = .ok (.iaload, 1) := by decide +kernel
theorem dX5_onlyThingOf_33 : decode cX5_onlyThingOf 33 = .ok (.istore_n 2, 1) := by decide +kernel
theorem dX5_onlyThingOf_34 : decode cX5_onlyThingOf 34 = .ok (.iconst (-1), 1) := by decide +kernel
theorem dX5_onlyThingOf_35 : decode cX5_onlyThingOf 35 = .ok (.istore_n 3, 1) := by decide +kernel
theorem dX5_onlyThingOf_36 : decode cX5_onlyThingOf 36 = .ok (.iconst 0, 1) := by decide +kernel
theorem dX5_onlyThingOf_37 : decode cX5_onlyThingOf 37 = .ok (.istore 4, 2) := by decide +kernel
theorem dX5_onlyThingOf_39 : decode cX5_onlyThingOf 39 = .ok (.iload 4, 2) := by decide +kernel
theorem dX5_onlyThingOf_41 : decode cX5_onlyThingOf 41 = .ok (.bipush 16, 2) := by decide +kernel
theorem dX5_onlyThingOf_43 : decode cX5_onlyThingOf 43 = .ok (.if_icmp .ge 53, 3) := by decide +kernel
theorem dX5_onlyThingOf_46 : decode cX5_onlyThingOf 46 = .ok (.iload_n 2, 1) := by decide +kernel
theorem dX5_onlyThingOf_47 : decode cX5_onlyThingOf 47 = .ok (.iload 4, 2) := by decide +kernel
theorem dX5_onlyThingOf_49 : decode cX5_onlyThingOf 49 = .ok (.ishr, 1) := by decide +kernel
theorem dX5_onlyThingOf_50 : decode cX5_onlyThingOf 50 = .ok (.iconst 1, 1) := by decide +kernel
theorem dX5_onlyThingOf_51 : decode cX5_onlyThingOf 51 = .ok (.iand, 1) := by decide +kernel
theorem dX5_onlyThingOf_52 : decode cX5_onlyThingOf 52 = .ok (.ifCond .ne 6, 3) := by decide +kernel
theorem dX5_onlyThingOf_55 : decode cX5_onlyThingOf 55 = .ok (.goto 35, 3) := by decide +kernel
theorem dX5_onlyThingOf_58 : decode cX5_onlyThingOf 58 = .ok (.aload_n 0, 1) := by decide +kernel
theorem dX5_onlyThingOf_59 : decode cX5_onlyThingOf 59 = .ok (.getfield 9, 3) := by decide +kernel
theorem dX5_onlyThingOf_62 : decode cX5_onlyThingOf 62 = .ok (.iload_n 1, 1) := by decide +kernel
theorem dX5_onlyThingOf_63 : decode cX5_onlyThingOf 63 = .ok (.iconst 1, 1) := by decide +kernel
theorem dX5_onlyThingOf_64 : decode cX5_onlyThingOf 64 = .ok (.iload 4, 2) := by decide +kernel
theorem dX5_onlyThingOf_66 : decode cX5_onlyThingOf 66 = .ok (.ishl, 1) := by decide +kernel
theorem dX5_onlyThingOf_67 : decode cX5_onlyThingOf 67 = .ok (.iastore, 1) := by decide +kernel
theorem dX5_onlyThingOf_68 : decode cX5_onlyThingOf 68 = .ok (.aload_n 0, 1) := by decide +kernel
theorem dX5_onlyThingOf_69 : decode cX5_onlyThingOf 69 = .ok (.invokevirtual 46, 3) := by decide +kernel
theorem dX5_onlyThingOf_72 : decode cX5_onlyThingOf 72 = .ok (.lconst 0, 1) := by decide +kernel
theorem dX5_onlyThingOf_73 : decode cX5_onlyThingOf 73 = .ok (.lcmp, 1) := by decide +kernel
theorem dX5_onlyThingOf_74 : decode cX5_onlyThingOf 74 = .ok (.ifCond .ne 6, 3) := by decide +kernel
theorem dX5_onlyThingOf_77 : decode cX5_onlyThingOf 77 = .ok (.goto 13, 3) := by decide +kernel
theorem dX5_onlyThingOf_80 : decode cX5_onlyThingOf 80 = .ok (.iload_n 3, 1) := by decide +kernel
theorem dX5_onlyThingOf_81 : decode cX5_onlyThingOf 81 = .ok (.iconst (-1), 1) := by decide +kernel
theorem dX5_onlyThingOf_82 : decode cX5_onlyThingOf 82 = .ok (.if_icmp .eq 5, 3) := by decide +kernel
theorem dX5_onlyThingOf_85 : decode cX5_onlyThingOf 85 = .ok (.iconst (-1), 1) := by decide +kernel
theorem dX5_onlyThingOf_86 : decode cX5_onlyThingOf 86 = .ok (.ireturn, 1) := by decide +kernel
theorem dX5_onlyThingOf_87 : decode cX5_onlyThingOf 87 = .ok (.iload 4, 2) := by decide +kernel
theorem dX5_onlyThingOf_89 : decode cX5_onlyThingOf 89 = .ok (.istore_n 3, 1) := by decide +kernel
theorem dX5_onlyThingOf_90 : decode cX5_onlyThingOf 90 = .ok (.iinc 4 1, 3) := by decide +kernel
theorem dX5_onlyThingOf_93 : decode cX5_onlyThingOf 93 = .ok (.goto (-54), 3) := by decide +kernel
theorem dX5_onlyThingOf_96 : decode cX5_onlyThingOf 96 = .ok (.iload_n 3, 1) := by decide +kernel
theorem dX5_onlyThingOf_97 : decode cX5_onlyThingOf 97 = .ok (.ireturn, 1) := by decide +kernel
theorem dX6_init_0 : decode cX6_init 0 = .ok (.aload_n 0, 1) := by decide +kernel
theorem dX6_init_1 : decode cX6_init 1 = .ok (.invokespecial 3, 3) := by decide +kernel
theorem dX6_init_4 : decode cX6_init 4 = .ok (.aload_n 0, 1) := by decide +kernel
theorem dX6_init_5 : decode cX6_init 5 = .ok (.iconst 0, 1) := by decide +kernel
theorem dX6_init_6 : decode cX6_init 6 = .ok (.putfield 9, 3) := by decide +kernel
theorem dX6_init_9 : decode cX6_init 9 = .ok (.aload_n 0, 1) := by decide +kernel
theorem dX6_init_10 : decode cX6_init 10 = .ok (.bipush 24, 2) := by decide +kernel
theorem dX6_init_12 : decode cX6_init 12 = .ok (.newarray .int, 2) := by decide +kernel
theorem dX6_init_14 : decode cX6_init 14 = .ok (.putfield 15, 3) := by decide +kernel
theorem dX6_init_17 : decode cX6_init 17 = .ok (.return_, 1) := by decide +kernel
theorem dX6_copyFrom_0 : decode cX6_copyFrom 0 = .ok (.aload_n 0, 1) := by decide +kernel
theorem dX6_copyFrom_1 : decode cX6_copyFrom 1 = .ok (.aload_n 1, 1) := by decide +kernel
theorem dX6_copyFrom_2 : decode cX6_copyFrom 2 = .ok (.getfield 9, 3) := by decide +kernel
theorem dX6_copyFrom_5 : decode cX6_copyFrom 5 = .ok (.putfield 9, 3) := by decide +kernel
theorem dX6_copyFrom_8 : decode cX6_copyFrom 8 = .ok (.aload_n 1, 1) := by decide +kernel
theorem dX6_copyFrom_9 : decode cX6_copyFrom 9 = .ok (.getfield 15, 3) := by decide +kernel
theorem dX6_copyFrom_12 : decode cX6_copyFrom 12 = .ok (.iconst 0, 1) := by decide +kernel
theorem dX6_copyFrom_13 : decode cX6_copyFrom 13 = .ok (.aload_n 0, 1) := by decide +kernel
theorem dX6_copyFrom_14 : decode cX6_copyFrom 14 = .ok (.getfield 15, 3) := by decide +kernel
theorem dX6_copyFrom_17 : decode cX6_copyFrom 17 = .ok (.iconst 0, 1) := by decide +kernel
theorem dX6_copyFrom_18 : decode cX6_copyFrom 18 = .ok (.aload_n 0, 1) := by decide +kernel
theorem dX6_copyFrom_19 : decode cX6_copyFrom 19 = .ok (.getfield 15, 3) := by decide +kernel
theorem dX6_copyFrom_22 : decode cX6_copyFrom 22 = .ok (.arraylength, 1) := by decide +kernel
theorem dX6_copyFrom_23 : decode cX6_copyFrom 23 = .ok (.invokestatic 19, 3) := by decide +kernel
theorem dX6_copyFrom_26 : decode cX6_copyFrom 26 = .ok (.return_, 1) := by decide +kernel
set_option maxRecDepth 20000 in
theorem ggX6_add_X10_within : GoodIn wsX6_add wsX10_within := goodIn_r _ [5] (by decide +kernel) (by decide +kernel)
set_option maxRecDepth 20000 in
theorem gX6_add_X10_within_n25 : GoodIn wsX6_add (wsX10_within) := ggX6_add_X10_within
theorem dX6_add_0 : decode cX6_add 0 = .ok (.iload_n 1, 1) := by decide +kernel
theorem dX6_add_1 : decode cX6_add 1 = .ok (.iconst 0, 1) := by decide +kernel
theorem dX6_add_2 : decode cX6_add 2 = .ok (.iconst 3, 1) := by decide +kernel
theorem dX6_add_3 : decode cX6_add 3 = .ok (.invokestatic 25, 3) := by decide +kernel
theorem dX6_add_6 : decode cX6_add 6 = .ok (.ifCond .eq 12, 3) := by decide +kernel
theorem dX6_add_9 : decode cX6_add 9 = .ok (.iload_n 2, 1) := by decide +kernel
theorem dX6_add_10 : decode cX6_add 10 = .ok (.iconst 0, 1) := by decide +kernel
theorem dX6_add_11 : decode cX6_add 11 = .ok (.iconst 1, 1) := by decide +kernel
theorem dX6_add_12 : decode cX6_add 12 = .ok (.invokestatic 25, 3) := by decide +kernel
theorem dX6_add_15 : decode cX6_add 15 = .ok (.ifCond .ne 7, 3) := by decide +kernel
theorem dX6_add_18 : decode cX6_add 18 = .ok (.sipush (-1002), 3) := by decide +kernel
theorem dX6_add_21 : decode cX6_add 21 = .ok (.ireturn, 1) := by decide +kernel
theorem dX6_add_22 : decode cX6_add 22 = .ok (.iload_n 1, 1) := by decide +kernel
theorem dX6_add_23 : decode cX6_add 23 = .ok (.iconst 2, 1) := by decide +kernel
theorem dX6_add_24 : decode cX6_add 24 = .ok (.imul, 1) := by decide +kernel
theorem dX6_add_25 : decode cX6_add 25 = .ok (.iload_n 2, 1) := by decide +kernel
theorem dX6_add_26 : decode cX6_add 26 = .ok (.iadd, 1) := by decide +kernel
theorem dX6_add_27 : decode cX6_add 27 = .ok (.iconst 3, 1) := by decide +kernel
theorem dX6_add_28 : decode cX6_add 28 = .ok (.imul, 1) := by decide +kernel
theorem dX6_add_29 : decode cX6_add 29 = .ok (.istore 6, 2) := by decide +kernel
theorem dX6_add_31 : decode cX6_add 31 = .ok (.aload_n 0, 1) := by decide +kernel
theorem dX6_add_32 : decode cX6_add 32 = .ok (.getfield 15, 3) := by decide +kernel
theorem dX6_add_35 : decode cX6_add 35 = .ok (.iload 6, 2) := by decide +kernel
theorem dX6_add_37 : decode cX6_add 37 = .ok (.dup2, 1) := by decide +kernel
theorem dX6_add_38 : decode cX6_add 38 = .ok (.iaload, 1) := by decide +kernel
theorem dX6_add_39 : decode cX6_add 39 = .ok (.iload_n 3, 1) := by decide +kernel
theorem dX6_add_40 : decode cX6_add 40 = .ok (.iadd, 1) := by decide +kernel
theorem dX6_add_41 : decode cX6_add 41 = .ok (.iastore, 1) := by decide +kernel
theorem dX6_add_42 : decode cX6_add 42 = .ok (.aload_n 0, 1) := by decide +kernel
theorem dX6_add_43 : decode cX6_add 43 = .ok (.getfield 15, 3) := by decide +kernel
theorem dX6_add_46 : decode cX6_add 46 = .ok (.iload 6, 2) := by decide +kernel
theorem dX6_add_48 : decode cX6_add 48 = .ok (.iconst 1, 1) := by decide +kernel
theorem dX6_add_49 : decode cX6_add 49 = .ok (.iadd, 1) := by decide +kernel
theorem dX6_add_50 : decode cX6_add 50 = .ok (.dup2, 1) := by decide +kernel
theorem dX6_add_51 : decode cX6_add 51 = .ok (.iaload, 1) := by decide +kernel
theorem dX6_add_52 : decode cX6_add 52 = .ok (.iload 4, 2) := by decide +kernel
theorem dX6_add_54 : decode cX6_add 54 = .ok (.iadd, 1) := by decide +kernel
theorem dX6_add_55 : decode cX6_add 55 = .ok (.iastore, 1) := by decide +kernel
theorem dX6_add_56 : decode cX6_add 56 = .ok (.aload_n 0, 1) := by decide +kernel
theorem dX6_add_57 : decode cX6_add 57 = .ok (.getfield 15, 3) := by decide +kernel
theorem dX6_add_60 : decode cX6_add 60 = .ok (.iload 6, 2) := by decide +kernel
theorem dX6_add_62 : decode cX6_add 62 = .ok (.iconst 2, 1) := by decide +kernel
theorem dX6_add_63 : decode cX6_add 63 = .ok (.iadd, 1) := by decide +kernel
theorem dX6_add_64 : decode cX6_add 64 = .ok (.dup2, 1) := by decide +kernel
theorem dX6_add_65 : decode cX6_add 65 = .ok (.iaload, 1) := by decide +kernel
theorem dX6_add_66 : decode cX6_add 66 = .ok (.iload 5, 2) := by decide +kernel
theorem dX6_add_68 : decode cX6_add 68 = .ok (.iadd, 1) := by decide +kernel
theorem dX6_add_69 : decode cX6_add 69 = .ok (.iastore, 1) := by decide +kernel
theorem dX6_add_70 : decode cX6_add 70 = .ok (.aload_n 0, 1) := by decide +kernel
theorem dX6_add_71 : decode cX6_add 71 = .ok (.dup, 1) := by decide +kernel
theorem dX6_add_72 : decode cX6_add 72 = .ok (.getfield 9, 3) := by decide +kernel
theorem dX6_add_75 : decode cX6_add 75 = .ok (.iconst 1, 1) := by decide +kernel
theorem dX6_add_76 : decode cX6_add 76 = .ok (.iadd, 1) := by decide +kernel
theorem dX6_add_77 : decode cX6_add 77 = .ok (.putfield 9, 3) := by decide +kernel
theorem dX6_add_80 : decode cX6_add 80 = .ok (.aload_n 0, 1) := by decide +kernel
theorem dX6_add_81 : decode cX6_add 81 = .ok (.getfield 9, 3) := by decide +kernel
theorem dX6_add_84 : decode cX6_add 84 = .ok (.ireturn, 1) := by decide +kernel
set_option maxRecDepth 20000 in
theorem ggX6_oddsOf_X10_within : GoodIn wsX6_oddsOf wsX10_within := goodIn_r _ [4] (by decide +kernel) (by decide +kernel)
set_option maxRecDepth 20000 in
theorem gX6_oddsOf_X10_within_n25 : GoodIn wsX6_oddsOf (wsX10_within) := ggX6_oddsOf_X10_within
theorem dX6_oddsOf_0 : decode cX6_oddsOf 0 = .ok (.iload_n 1, 1) := by decide +kernel
theorem dX6_oddsOf_1 : decode cX6_oddsOf 1 = .ok (.iconst 0, 1) := by decide +kernel
theorem dX6_oddsOf_2 : decode cX6_oddsOf 2 = .ok (.iconst 3, 1) := by decide +kernel
theorem dX6_oddsOf_3 : decode cX6_oddsOf 3 = .ok (.invokestatic 25, 3) := by decide +kernel
theorem dX6_oddsOf_6 : decode cX6_oddsOf 6 = .ok (.ifCond .eq 12, 3) := by decide +kernel
theorem dX6_oddsOf_9 : decode cX6_oddsOf 9 = .ok (.iload_n 2, 1) := by decide +kernel
theorem dX6_oddsOf_10 : decode cX6_oddsOf 10 = .ok (.iconst 0, 1) := by decide +kernel
theorem dX6_oddsOf_11 : decode cX6_oddsOf 11 = .ok (.iconst 1, 1) := by decide +kernel
theorem dX6_oddsOf_12 : decode cX6_oddsOf 12 = .ok (.invokestatic 25, 3) := by decide +kernel
theorem dX6_oddsOf_15 : decode cX6_oddsOf 15 = .ok (.ifCond .ne 5, 3) := by decide +kernel
theorem dX6_oddsOf_18 : decode cX6_oddsOf 18 = .ok (.iconst 0, 1) := by decide +kernel
theorem dX6_oddsOf_19 : decode cX6_oddsOf 19 = .ok (.ireturn, 1) := by decide +kernel
theorem dX6_oddsOf_20 : decode cX6_oddsOf 20 = .ok (.iload_n 1, 1) := by decide +kernel
theorem dX6_oddsOf_21 : decode cX6_oddsOf 21 = .ok (.iconst 2, 1) := by decide +kernel
theorem dX6_oddsOf_22 : decode cX6_oddsOf 22 = .ok (.imul, 1) := by decide +kernel
theorem dX6_oddsOf_23 : decode cX6_oddsOf 23 = .ok (.iload_n 2, 1) := by decide +kernel
theorem dX6_oddsOf_24 : decode cX6_oddsOf 24 = .ok (.iadd, 1) := by decide +kernel
theorem dX6_oddsOf_25 : decode cX6_oddsOf 25 = .ok (.iconst 3, 1) := by decide +kernel
theorem dX6_oddsOf_26 : decode cX6_oddsOf 26 = .ok (.imul, 1) := by decide +kernel
theorem dX6_oddsOf_27 : decode cX6_oddsOf 27 = .ok (.istore 4, 2) := by decide +kernel
theorem dX6_oddsOf_29 : decode cX6_oddsOf 29 = .ok (.aload_n 0, 1) := by decide +kernel
theorem dX6_oddsOf_30 : decode cX6_oddsOf 30 = .ok (.getfield 15, 3) := by decide +kernel
theorem dX6_oddsOf_33 : decode cX6_oddsOf 33 = .ok (.iload 4, 2) := by decide +kernel
theorem dX6_oddsOf_35 : decode cX6_oddsOf 35 = .ok (.iaload, 1) := by decide +kernel
theorem dX6_oddsOf_36 : decode cX6_oddsOf 36 = .ok (.aload_n 0, 1) := by decide +kernel
theorem dX6_oddsOf_37 : decode cX6_oddsOf 37 = .ok (.getfield 15, 3) := by decide +kernel
theorem dX6_oddsOf_40 : decode cX6_oddsOf 40 = .ok (.iload 4, 2) := by decide +kernel
theorem dX6_oddsOf_42 : decode cX6_oddsOf 42 = .ok (.iconst 1, 1) := by decide +kernel
theorem dX6_oddsOf_43 : decode cX6_oddsOf 43 = .ok (.iadd, 1) := by decide +kernel
theorem dX6_oddsOf_44 : decode cX6_oddsOf 44 = .ok (.iaload, 1) := by decide +kernel
theorem dX6_oddsOf_45 : decode cX6_oddsOf 45 = .ok (.iadd, 1) := by decide +kernel
theorem dX6_oddsOf_46 : decode cX6_oddsOf 46 = .ok (.aload_n 0, 1) := by decide +kernel
theorem dX6_oddsOf_47 : decode cX6_oddsOf 47 = .ok (.getfield 15, 3) := by decide +kernel
theorem dX6_oddsOf_50 : decode cX6_oddsOf 50 = .ok (.iload 4, 2) := by decide +kernel
theorem dX6_oddsOf_52 : decode cX6_oddsOf 52 = .ok (.iconst 2, 1) := by decide +kernel
theorem dX6_oddsOf_53 : decode cX6_oddsOf 53 = .ok (.iadd, 1) := by decide +kernel
theorem dX6_oddsOf_54 : decode cX6_oddsOf 54 = .ok (.iaload, 1) := by decide +kernel
theorem dX6_oddsOf_55 : decode cX6_oddsOf 55 = .ok (.iadd, 1) := by decide +kernel
theorem dX6_oddsOf_56 : decode cX6_oddsOf 56 = .ok (.iconst 3, 1) := by decide +kernel
theorem dX6_oddsOf_57 : decode cX6_oddsOf 57 = .ok (.iadd, 1) := by decide +kernel
theorem dX6_oddsOf_58 : decode cX6_oddsOf 58 = .ok (.istore 5, 2) := by decide +kernel
theorem dX6_oddsOf_60 : decode cX6_oddsOf 60 = .ok (.iload 5, 2) := by decide +kernel
theorem dX6_oddsOf_62 : decode cX6_oddsOf 62 = .ok (.ifCond .gt 5, 3) := by decide +kernel
theorem dX6_oddsOf_65 : decode cX6_oddsOf 65 = .ok (.iconst 0, 1) := by decide +kernel
theorem dX6_oddsOf_66 : decode cX6_oddsOf 66 = .ok (.ireturn, 1) := by decide +kernel
theorem dX6_oddsOf_67 : decode cX6_oddsOf 67 = .ok (.sipush 1000, 3) := by decide +kernel
theorem dX6_oddsOf_70 : decode cX6_oddsOf 70 = .ok (.aload_n 0, 1) := by decide +kernel
theorem dX6_oddsOf_71 : decode cX6_oddsOf 71 = .ok (.getfield 15, 3) := by decide +kernel
theorem dX6_oddsOf_74 : decode cX6_oddsOf 74 = .ok (.iload 4, 2) := by decide +kernel
theorem dX6_oddsOf_76 : decode cX6_oddsOf 76 = .ok (.iaload, 1) := by decide +kernel
theorem dX6_oddsOf_77 : decode cX6_oddsOf 77 = .ok (.iconst 1, 1) := by decide +kernel
theorem dX6_oddsOf_78 : decode cX6_oddsOf 78 = .ok (.iadd, 1) := by decide +kernel
theorem dX6_oddsOf_79 : decode cX6_oddsOf 79 = .ok (.imul, 1) := by decide +kernel
theorem dX6_oddsOf_80 : decode cX6_oddsOf 80 = .ok (.iload 5, 2) := by decide +kernel
theorem dX6_oddsOf_82 : decode cX6_oddsOf 82 = .ok (.idiv, 1) := by decide +kernel
theorem dX6_oddsOf_83 : decode cX6_oddsOf 83 = .ok (.istore 6, 2) := by decide +kernel
theorem dX6_oddsOf_85 : decode cX6_oddsOf 85 = .ok (.sipush 1000, 3) := by decide +kernel
theorem dX6_oddsOf_88 : decode cX6_oddsOf 88 = .ok (.aload_n 0, 1) := by decide +kernel
theorem dX6_oddsOf_89 : decode cX6_oddsOf 89 = .ok (.getfield 15, 3) := by decide +kernel
theorem dX6_oddsOf_92 : decode cX6_oddsOf 92 = .ok (.iload 4, 2) := by decide +kernel
theorem dX6_oddsOf_94 : decode cX6_oddsOf 94 = .ok (.iconst 1, 1) := by decide +kernel
theorem dX6_oddsOf_95 : decode cX6_oddsOf 95 = .ok (.iadd, 1) := by decide +kernel
theorem dX6_oddsOf_96 : decode cX6_oddsOf 96 = .ok (.iaload, 1) := by decide +kernel
theorem dX6_oddsOf_97 : decode cX6_oddsOf 97 = .ok (.iconst 1, 1) := by decide +kernel
theorem dX6_oddsOf_98 : decode cX6_oddsOf 98 = .ok (.iadd, 1) := by decide +kernel
theorem dX6_oddsOf_99 : decode cX6_oddsOf 99 = .ok (.imul, 1) := by decide +kernel
theorem dX6_oddsOf_100 : decode cX6_oddsOf 100 = .ok (.iload 5, 2) := by decide +kernel
theorem dX6_oddsOf_102 : decode cX6_oddsOf 102 = .ok (.idiv, 1) := by decide +kernel
theorem dX6_oddsOf_103 : decode cX6_oddsOf 103 = .ok (.istore 7, 2) := by decide +kernel
theorem dX6_oddsOf_105 : decode cX6_oddsOf 105 = .ok (.iload_n 3, 1) := by decide +kernel
theorem dX6_oddsOf_106 : decode cX6_oddsOf 106 = .ok (.ifCond .ne 6, 3) := by decide +kernel
theorem dX6_oddsOf_109 : decode cX6_oddsOf 109 = .ok (.iload 6, 2) := by decide +kernel
theorem dX6_oddsOf_111 : decode cX6_oddsOf 111 = .ok (.ireturn, 1) := by decide +kernel
theorem dX6_oddsOf_112 : decode cX6_oddsOf 112 = .ok (.iload_n 3, 1) := by decide +kernel
theorem dX6_oddsOf_113 : decode cX6_oddsOf 113 = .ok (.iconst 1, 1) := by decide +kernel
theorem dX6_oddsOf_114 : decode cX6_oddsOf 114 = .ok (.if_icmp .ne 8, 3) := by decide +kernel
theorem dX6_oddsOf_117 : decode cX6_oddsOf 117 = .ok (.iload 7, 2) := by decide +kernel
theorem dX6_oddsOf_119 : decode cX6_oddsOf 119 = .ok (.goto 12, 3) := by decide +kernel
theorem dX6_oddsOf_122 : decode cX6_oddsOf 122 = .ok (.sipush 1000, 3) := by decide +kernel
theorem dX6_oddsOf_125 : decode cX6_oddsOf 125 = .ok (.iload 6, 2) := by decide +kernel
theorem dX6_oddsOf_127 : decode cX6_oddsOf 127 = .ok (.isub, 1) := by decide +kernel
theorem dX6_oddsOf_128 : decode cX6_oddsOf 128 = .ok (.iload 7, 2) := by decide +kernel
theorem dX6_oddsOf_130 : decode cX6_oddsOf 130 = .ok (.isub, 1) := by decide +kernel
theorem dX6_oddsOf_131 : decode cX6_oddsOf 131 = .ok (.ireturn, 1) := by decide +kernel
theorem dX7_init_0 : decode cX7_init 0 = .ok (.aload_n 0, 1) := by decide +kernel
theorem dX7_init_1 : decode cX7_init 1 = .ok (.invokespecial 3, 3) := by decide +kernel
theorem dX7_init_4 : decode cX7_init 4 = .ok (.aload_n 0, 1) := by decide +kernel
theorem dX7_init_5 : decode cX7_init 5 = .ok (.bipush 16, 2) := by decide +kernel
theorem dX7_init_7 : decode cX7_init 7 = .ok (.newarray .int, 2) := by decide +kernel
theorem dX7_init_9 : decode cX7_init 9 = .ok (.putfield 9, 3) := by decide +kernel
theorem dX7_init_12 : decode cX7_init 12 = .ok (.aload_n 0, 1) := by decide +kernel
theorem dX7_init_13 : decode cX7_init 13 = .ok (.bipush 16, 2) := by decide +kernel
theorem dX7_init_15 : decode cX7_init 15 = .ok (.newarray .int, 2) := by decide +kernel
theorem dX7_init_17 : decode cX7_init 17 = .ok (.putfield 15, 3) := by decide +kernel
theorem dX7_init_20 : decode cX7_init 20 = .ok (.aload_n 0, 1) := by decide +kernel
theorem dX7_init_21 : decode cX7_init 21 = .ok (.bipush 24, 2) := by decide +kernel
theorem dX7_init_23 : decode cX7_init 23 = .ok (.newarray .boolean, 2) := by decide +kernel
theorem dX7_init_25 : decode cX7_init 25 = .ok (.putfield 18, 3) := by decide +kernel
theorem dX7_init_28 : decode cX7_init 28 = .ok (.aload_n 0, 1) := by decide +kernel
theorem dX7_init_29 : decode cX7_init 29 = .ok (.iconst 0, 1) := by decide +kernel
theorem dX7_init_30 : decode cX7_init 30 = .ok (.putfield 22, 3) := by decide +kernel
theorem dX7_init_33 : decode cX7_init 33 = .ok (.return_, 1) := by decide +kernel
set_option maxRecDepth 20000 in
theorem ggX7_pegOf_X10_within : GoodIn wsX7_pegOf wsX10_within := goodIn_r _ [4] (by decide +kernel) (by decide +kernel)
set_option maxRecDepth 20000 in
theorem gX7_pegOf_X10_within_n26 : GoodIn wsX7_pegOf (wsX10_within) := ggX7_pegOf_X10_within
theorem dX7_pegOf_0 : decode cX7_pegOf 0 = .ok (.iload_n 1, 1) := by decide +kernel
theorem dX7_pegOf_1 : decode cX7_pegOf 1 = .ok (.iconst 0, 1) := by decide +kernel
theorem dX7_pegOf_2 : decode cX7_pegOf 2 = .ok (.bipush 15, 2) := by decide +kernel
theorem dX7_pegOf_4 : decode cX7_pegOf 4 = .ok (.invokestatic 26, 3) := by decide +kernel
theorem dX7_pegOf_7 : decode cX7_pegOf 7 = .ok (.ifCond .eq 12, 3) := by decide +kernel
theorem dX7_pegOf_10 : decode cX7_pegOf 10 = .ok (.aload_n 0, 1) := by decide +kernel
theorem dX7_pegOf_11 : decode cX7_pegOf 11 = .ok (.getfield 15, 3) := by decide +kernel
theorem dX7_pegOf_14 : decode cX7_pegOf 14 = .ok (.iload_n 1, 1) := by decide +kernel
theorem dX7_pegOf_15 : decode cX7_pegOf 15 = .ok (.iaload, 1) := by decide +kernel
theorem dX7_pegOf_16 : decode cX7_pegOf 16 = .ok (.goto 4, 3) := by decide +kernel
theorem dX7_pegOf_19 : decode cX7_pegOf 19 = .ok (.iconst (-1), 1) := by decide +kernel
theorem dX7_pegOf_20 : decode cX7_pegOf 20 = .ok (.ireturn, 1) := by decide +kernel
set_option maxRecDepth 20000 in
theorem ggX7_make_X7_greatestLeft : GoodIn wsX7_make wsX7_greatestLeft := goodIn_r _ [10, 4, 3, 5, 50, 51, 52, 53, 54, 55, 56, 57, 46, 47, 48, 49] (by decide +kernel) (by decide +kernel)
set_option maxRecDepth 20000 in
theorem gX7_make_X7_greatestLeft : GoodIn wsX7_make (wsV RX7 35 RX7 yX7_greatestLeft wsX7_greatestLeft) := goodIn_app (goodIn_of _ (by decide +kernel)) ggX7_make_X7_greatestLeft
set_option maxRecDepth 20000 in
theorem ggX7_make_X2_kindOf : GoodIn wsX7_make wsX2_kindOf := goodIn_r _ [15, 16, 17, 18, 19, 14, 20, 21, 50, 51, 52, 53, 54, 55, 56, 57] (by decide +kernel) (by decide +kernel)
set_option maxRecDepth 20000 in
theorem gX7_make_X2_kindOf : GoodIn wsX7_make (wsV RX7 39 RX2 yX2_kindOf wsX2_kindOf) := goodIn_app (goodIn_of _ (by decide +kernel)) ggX7_make_X2_kindOf
set_option maxRecDepth 20000 in
theorem ggX7_make_X7_leastWalkLeft : GoodIn wsX7_make wsX7_leastWalkLeft := goodIn_r _ [25, 26, 2, 27, 28, 29, 30, 31, 32, 33, 34, 35, 36, 37, 38, 58, 59, 60, 61, 62, 63, 64, 46, 47, 48, 49] (by decide +kernel) (by decide +kernel)
set_option maxRecDepth 20000 in
theorem gX7_make_X7_leastWalkLeft : GoodIn wsX7_make (wsV RX7 43 RX7 yX7_leastWalkLeft wsX7_leastWalkLeft) := goodIn_app (goodIn_of _ (by decide +kernel)) ggX7_make_X7_leastWalkLeft
set_option maxRecDepth 20000 in
theorem ggX7_make_X2_knows : GoodIn wsX7_make wsX2_knows := goodIn_r _ [20, 21, 50, 51, 52, 53, 54, 55, 56, 57] (by decide +kernel) (by decide +kernel)
set_option maxRecDepth 20000 in
theorem gX7_make_X2_knows : GoodIn wsX7_make (wsV RX7 47 RX2 yX2_knows wsX2_knows) := goodIn_app (goodIn_of _ (by decide +kernel)) ggX7_make_X2_knows
set_option maxRecDepth 20000 in
theorem ggX7_make_X3_hasPeg : GoodIn wsX7_make wsX3_hasPeg := goodIn_r _ [37, 38, 58, 59, 60, 61, 62, 63, 64] (by decide +kernel) (by decide +kernel)
set_option maxRecDepth 20000 in
theorem gX7_make_X3_hasPeg : GoodIn wsX7_make (wsV RX7 51 RX3 yX3_hasPeg wsX3_hasPeg) := goodIn_app (goodIn_of _ (by decide +kernel)) ggX7_make_X3_hasPeg
set_option maxRecDepth 20000 in
theorem ggX7_make_X3_walkOf : GoodIn wsX7_make wsX3_walkOf := goodIn_r _ [44, 45, 34, 35, 36, 31, 37, 38, 58, 59, 60, 61, 62, 63, 64] (by decide +kernel) (by decide +kernel)
set_option maxRecDepth 20000 in
theorem gX7_make_X3_walkOf : GoodIn wsX7_make (wsV RX7 56 RX3 yX3_walkOf wsX3_walkOf) := goodIn_app (goodIn_of _ (by decide +kernel)) ggX7_make_X3_walkOf
theorem dX7_make_0 : decode cX7_make 0 = .ok (.aload_n 0, 1) := by decide +kernel
theorem dX7_make_1 : decode cX7_make 1 = .ok (.iconst 0, 1) := by decide +kernel
theorem dX7_make_2 : decode cX7_make 2 = .ok (.putfield 22, 3) := by decide +kernel
theorem dX7_make_5 : decode cX7_make 5 = .ok (.iconst 0, 1) := by decide +kernel
theorem dX7_make_6 : decode cX7_make 6 = .ok (.istore 4, 2) := by decide +kernel
theorem dX7_make_8 : decode cX7_make 8 = .ok (.iload 4, 2) := by decide +kernel
theorem dX7_make_10 : decode cX7_make 10 = .ok (.bipush 24, 2) := by decide +kernel
theorem dX7_make_12 : decode cX7_make 12 = .ok (.if_icmp .ge 17, 3) := by decide +kernel
theorem dX7_make_15 : decode cX7_make 15 = .ok (.aload_n 0, 1) := by decide +kernel
theorem dX7_make_16 : decode cX7_make 16 = .ok (.getfield 18, 3) := by decide +kernel
theorem dX7_make_19 : decode cX7_make 19 = .ok (.iload 4, 2) := by decide +kernel
theorem dX7_make_21 : decode cX7_make 21 = .ok (.iconst 0, 1) := by decide +kernel
theorem dX7_make_22 : decode cX7_make 22 = .ok (.bastore, 1) := by decide +kernel
theorem dX7_make_23 : decode cX7_make 23 = .ok (.iinc 4 1, 3) := by decide +kernel
theorem dX7_make_26 : decode cX7_make 26 = .ok (.goto (-18), 3) := by decide +kernel
theorem dX7_make_29 : decode cX7_make 29 = .ok (.iconst 0, 1) := by decide +kernel
theorem dX7_make_30 : decode cX7_make 30 = .ok (.istore 4, 2) := by decide +kernel
theorem dX7_make_32 : decode cX7_make 32 = .ok (.iload 4, 2) := by decide +kernel
theorem dX7_make_34 : decode cX7_make 34 = .ok (.bipush 16, 2) := by decide +kernel
theorem dX7_make_36 : decode cX7_make 36 = .ok (.if_icmp .ge 17, 3) := by decide +kernel
theorem dX7_make_39 : decode cX7_make 39 = .ok (.aload_n 0, 1) := by decide +kernel
theorem dX7_make_40 : decode cX7_make 40 = .ok (.getfield 15, 3) := by decide +kernel
theorem dX7_make_43 : decode cX7_make 43 = .ok (.iload 4, 2) := by decide +kernel
theorem dX7_make_45 : decode cX7_make 45 = .ok (.iconst (-1), 1) := by decide +kernel
theorem dX7_make_46 : decode cX7_make 46 = .ok (.iastore, 1) := by decide +kernel
theorem dX7_make_47 : decode cX7_make 47 = .ok (.iinc 4 1, 3) := by decide +kernel
theorem dX7_make_50 : decode cX7_make 50 = .ok (.goto (-18), 3) := by decide +kernel
theorem dX7_make_53 : decode cX7_make 53 = .ok (.iconst 0, 1) := by decide +kernel
theorem dX7_make_54 : decode cX7_make 54 = .ok (.istore 4, 2) := by decide +kernel
theorem dX7_make_56 : decode cX7_make 56 = .ok (.iload 4, 2) := by decide +kernel
theorem dX7_make_58 : decode cX7_make 58 = .ok (.aload_n 2, 1) := by decide +kernel
theorem dX7_make_59 : decode cX7_make 59 = .ok (.getfield 30, 3) := by decide +kernel
theorem dX7_make_62 : decode cX7_make 62 = .ok (.if_icmp .ge 98, 3) := by decide +kernel
theorem dX7_make_65 : decode cX7_make 65 = .ok (.iload_n 1, 1) := by decide +kernel
theorem dX7_make_66 : decode cX7_make 66 = .ok (.ifCond .eq 8, 3) := by decide +kernel
theorem dX7_make_69 : decode cX7_make 69 = .ok (.iload 4, 2) := by decide +kernel
theorem dX7_make_71 : decode cX7_make 71 = .ok (.goto 8, 3) := by decide +kernel
theorem dX7_make_74 : decode cX7_make 74 = .ok (.aload_n 0, 1) := by decide +kernel
theorem dX7_make_75 : decode cX7_make 75 = .ok (.aload_n 2, 1) := by decide +kernel
theorem dX7_make_76 : decode cX7_make 76 = .ok (.invokevirtual 35, 3) := by decide +kernel
theorem dX7_make_79 : decode cX7_make 79 = .ok (.istore 5, 2) := by decide +kernel
theorem dX7_make_81 : decode cX7_make 81 = .ok (.aload_n 0, 1) := by decide +kernel
theorem dX7_make_82 : decode cX7_make 82 = .ok (.aload_n 2, 1) := by decide +kernel
theorem dX7_make_83 : decode cX7_make 83 = .ok (.iload 5, 2) := by decide +kernel
theorem dX7_make_85 : decode cX7_make 85 = .ok (.invokevirtual 39, 3) := by decide +kernel
theorem dX7_make_88 : decode cX7_make 88 = .ok (.aload_n 3, 1) := by decide +kernel
theorem dX7_make_89 : decode cX7_make 89 = .ok (.invokevirtual 43, 3) := by decide +kernel
theorem dX7_make_92 : decode cX7_make 92 = .ok (.istore 6, 2) := by decide +kernel
theorem dX7_make_94 : decode cX7_make 94 = .ok (.aload_n 2, 1) := by decide +kernel
theorem dX7_make_95 : decode cX7_make 95 = .ok (.iload 5, 2) := by decide +kernel
theorem dX7_make_97 : decode cX7_make 97 = .ok (.invokevirtual 47, 3) := by decide +kernel
theorem dX7_make_100 : decode cX7_make 100 = .ok (.ifCond .eq 12, 3) := by decide +kernel
theorem dX7_make_103 : decode cX7_make 103 = .ok (.aload_n 3, 1) := by decide +kernel
theorem dX7_make_104 : decode cX7_make 104 = .ok (.iload 6, 2) := by decide +kernel
theorem dX7_make_106 : decode cX7_make 106 = .ok (.invokevirtual 51, 3) := by decide +kernel
theorem dX7_make_109 : decode cX7_make 109 = .ok (.ifCond .ne 5, 3) := by decide +kernel
theorem dX7_make_112 : decode cX7_make 112 = .ok (.iconst 0, 1) := by decide +kernel
theorem dX7_make_113 : decode cX7_make 113 = .ok (.ireturn, 1) := by decide +kernel
theorem dX7_make_114 : decode cX7_make 114 = .ok (.aload_n 0, 1) := by decide +kernel
theorem dX7_make_115 : decode cX7_make 115 = .ok (.getfield 15, 3) := by decide +kernel
theorem dX7_make_118 : decode cX7_make 118 = .ok (.iload 5, 2) := by decide +kernel
theorem dX7_make_120 : decode cX7_make 120 = .ok (.iload 6, 2) := by decide +kernel
theorem dX7_make_122 : decode cX7_make 122 = .ok (.iastore, 1) := by decide +kernel
theorem dX7_make_123 : decode cX7_make 123 = .ok (.aload_n 0, 1) := by decide +kernel
theorem dX7_make_124 : decode cX7_make 124 = .ok (.getfield 18, 3) := by decide +kernel
theorem dX7_make_127 : decode cX7_make 127 = .ok (.iload 6, 2) := by decide +kernel
theorem dX7_make_129 : decode cX7_make 129 = .ok (.iconst 1, 1) := by decide +kernel
theorem dX7_make_130 : decode cX7_make 130 = .ok (.bastore, 1) := by decide +kernel
theorem dX7_make_131 : decode cX7_make 131 = .ok (.aload_n 0, 1) := by decide +kernel
theorem dX7_make_132 : decode cX7_make 132 = .ok (.dup, 1) := by decide +kernel
theorem dX7_make_133 : decode cX7_make 133 = .ok (.getfield 22, 3) := by decide +kernel
theorem dX7_make_136 : decode cX7_make 136 = .ok (.aload_n 0, 1) := by decide +kernel
theorem dX7_make_137 : decode cX7_make 137 = .ok (.getfield 9, 3) := by decide +kernel
theorem dX7_make_140 : decode cX7_make 140 = .ok (.iload 5, 2) := by decide +kernel
theorem dX7_make_142 : decode cX7_make 142 = .ok (.iaload, 1) := by decide +kernel
theorem dX7_make_143 : decode cX7_make 143 = .ok (.aload_n 3, 1) := by decide +kernel
theorem dX7_make_144 : decode cX7_make 144 = .ok (.iload 6, 2) := by decide +kernel
theorem dX7_make_146 : decode cX7_make 146 = .ok (.invokevirtual 56, 3) := by decide +kernel
theorem dX7_make_149 : decode cX7_make 149 = .ok (.imul, 1) := by decide +kernel
theorem dX7_make_150 : decode cX7_make 150 = .ok (.iadd, 1) := by decide +kernel
theorem dX7_make_151 : decode cX7_make 151 = .ok (.putfield 22, 3) := by decide +kernel
theorem dX7_make_154 : decode cX7_make 154 = .ok (.iinc 4 1, 3) := by decide +kernel
theorem dX7_make_157 : decode cX7_make 157 = .ok (.goto (-101), 3) := by decide +kernel
theorem dX7_make_160 : decode cX7_make 160 = .ok (.iconst 1, 1) := by decide +kernel
theorem dX7_make_161 : decode cX7_make 161 = .ok (.ireturn, 1) := by decide +kernel
theorem dX7_greatestLeft_0 : decode cX7_greatestLeft 0 = .ok (.iconst (-1), 1) := by decide +kernel
theorem dX7_greatestLeft_1 : decode cX7_greatestLeft 1 = .ok (.istore_n 2, 1) := by decide +kernel
theorem dX7_greatestLeft_2 : decode cX7_greatestLeft 2 = .ok (.iconst 0, 1) := by decide +kernel
theorem dX7_greatestLeft_3 : decode cX7_greatestLeft 3 = .ok (.istore_n 3, 1) := by decide +kernel
theorem dX7_greatestLeft_4 : decode cX7_greatestLeft 4 = .ok (.iload_n 3, 1) := by decide +kernel
theorem dX7_greatestLeft_5 : decode cX7_greatestLeft 5 = .ok (.aload_n 1, 1) := by decide +kernel
theorem dX7_greatestLeft_6 : decode cX7_greatestLeft 6 = .ok (.getfield 30, 3) := by decide +kernel
theorem dX7_greatestLeft_9 : decode cX7_greatestLeft 9 = .ok (.if_icmp .ge 41, 3) := by decide +kernel
theorem dX7_greatestLeft_12 : decode cX7_greatestLeft 12 = .ok (.aload_n 0, 1) := by decide +kernel
theorem dX7_greatestLeft_13 : decode cX7_greatestLeft 13 = .ok (.getfield 15, 3) := by decide +kernel
theorem dX7_greatestLeft_16 : decode cX7_greatestLeft 16 = .ok (.iload_n 3, 1) := by decide +kernel
theorem dX7_greatestLeft_17 : decode cX7_greatestLeft 17 = .ok (.iaload, 1) := by decide +kernel
theorem dX7_greatestLeft_18 : decode cX7_greatestLeft 18 = .ok (.iconst (-1), 1) := by decide +kernel
theorem dX7_greatestLeft_19 : decode cX7_greatestLeft 19 = .ok (.if_icmp .ne 25, 3) := by decide +kernel
theorem dX7_greatestLeft_22 : decode cX7_greatestLeft 22 = .ok (.iload_n 2, 1) := by decide +kernel
theorem dX7_greatestLeft_23 : decode cX7_greatestLeft 23 = .ok (.iconst (-1), 1) := by decide +kernel
theorem dX7_greatestLeft_24 : decode cX7_greatestLeft 24 = .ok (.if_icmp .eq 18, 3) := by decide +kernel
theorem dX7_greatestLeft_27 : decode cX7_greatestLeft 27 = .ok (.aload_n 0, 1) := by decide +kernel
theorem dX7_greatestLeft_28 : decode cX7_greatestLeft 28 = .ok (.getfield 9, 3) := by decide +kernel
theorem dX7_greatestLeft_31 : decode cX7_greatestLeft 31 = .ok (.iload_n 3, 1) := by decide +kernel
theorem dX7_greatestLeft_32 : decode cX7_greatestLeft 32 = .ok (.iaload, 1) := by decide +kernel
theorem dX7_greatestLeft_33 : decode cX7_greatestLeft 33 = .ok (.aload_n 0, 1) := by decide +kernel
theorem dX7_greatestLeft_34 : decode cX7_greatestLeft 34 = .ok (.getfield 9, 3) := by decide +kernel
theorem dX7_greatestLeft_37 : decode cX7_greatestLeft 37 = .ok (.iload_n 2, 1) := by decide +kernel
theorem dX7_greatestLeft_38 : decode cX7_greatestLeft 38 = .ok (.iaload, 1) := by decide +kernel
theorem dX7_greatestLeft_39 : decode cX7_greatestLeft 39 = .ok (.if_icmp .le 5, 3) := by decide +kernel
theorem dX7_greatestLeft_42 : decode cX7_greatestLeft 42 = .ok (.iload_n 3, 1) := by decide +kernel
theorem dX7_greatestLeft_43 : decode cX7_greatestLeft 43 = .ok (.istore_n 2, 1) := by decide +kernel
theorem dX7_greatestLeft_44 : decode cX7_greatestLeft 44 = .ok (.iinc 3 1, 3) := by decide +kernel
theorem dX7_greatestLeft_47 : decode cX7_greatestLeft 47 = .ok (.goto (-43), 3) := by decide +kernel
theorem dX7_greatestLeft_50 : decode cX7_greatestLeft 50 = .ok (.iload_n 2, 1) := by decide +kernel
theorem dX7_greatestLeft_51 : decode cX7_greatestLeft 51 = .ok (.ireturn, 1) := by decide +kernel
set_option maxRecDepth 20000 in
theorem ggX7_leastWalkLeft_X3_isOfKind : GoodIn wsX7_leastWalkLeft wsX3_isOfKind := goodIn_r _ [8, 9, 10, 11, 12, 7, 13, 14, 15, 16, 17, 18, 19, 20, 21] (by decide +kernel) (by decide +kernel)
set_option maxRecDepth 20000 in
theorem gX7_leastWalkLeft_X3_isOfKind : GoodIn wsX7_leastWalkLeft (wsV RX7 62 RX3 yX3_isOfKind wsX3_isOfKind) := goodIn_app (goodIn_of _ (by decide +kernel)) ggX7_leastWalkLeft_X3_isOfKind
theorem dX7_leastWalkLeft_0 : decode cX7_leastWalkLeft 0 = .ok (.iconst (-1), 1) := by decide +kernel
theorem dX7_leastWalkLeft_1 : decode cX7_leastWalkLeft 1 = .ok (.istore_n 3, 1) := by decide +kernel
theorem dX7_leastWalkLeft_2 : decode cX7_leastWalkLeft 2 = .ok (.iconst 0, 1) := by decide +kernel
theorem dX7_leastWalkLeft_3 : decode cX7_leastWalkLeft 3 = .ok (.istore 4, 2) := by decide +kernel
theorem dX7_leastWalkLeft_5 : decode cX7_leastWalkLeft 5 = .ok (.iload 4, 2) := by decide +kernel
theorem dX7_leastWalkLeft_7 : decode cX7_leastWalkLeft 7 = .ok (.aload_n 2, 1) := by decide +kernel
theorem dX7_leastWalkLeft_8 : decode cX7_leastWalkLeft 8 = .ok (.getfield 59, 3) := by decide +kernel
theorem dX7_leastWalkLeft_11 : decode cX7_leastWalkLeft 11 = .ok (.if_icmp .ge 65, 3) := by decide +kernel
theorem dX7_leastWalkLeft_14 : decode cX7_leastWalkLeft 14 = .ok (.aload_n 0, 1) := by decide +kernel
theorem dX7_leastWalkLeft_15 : decode cX7_leastWalkLeft 15 = .ok (.getfield 18, 3) := by decide +kernel
theorem dX7_leastWalkLeft_18 : decode cX7_leastWalkLeft 18 = .ok (.iload 4, 2) := by decide +kernel
theorem dX7_leastWalkLeft_20 : decode cX7_leastWalkLeft 20 = .ok (.baload, 1) := by decide +kernel
theorem dX7_leastWalkLeft_21 : decode cX7_leastWalkLeft 21 = .ok (.ifCond .ne 17, 3) := by decide +kernel
theorem dX7_leastWalkLeft_24 : decode cX7_leastWalkLeft 24 = .ok (.aload_n 2, 1) := by decide +kernel
theorem dX7_leastWalkLeft_25 : decode cX7_leastWalkLeft 25 = .ok (.iload 4, 2) := by decide +kernel
theorem dX7_leastWalkLeft_27 : decode cX7_leastWalkLeft 27 = .ok (.iload_n 1, 1) := by decide +kernel
theorem dX7_leastWalkLeft_28 : decode cX7_leastWalkLeft 28 = .ok (.invokevirtual 62, 3) := by decide +kernel
theorem dX7_leastWalkLeft_31 : decode cX7_leastWalkLeft 31 = .ok (.ifCond .eq 7, 3) := by decide +kernel
theorem dX7_leastWalkLeft_34 : decode cX7_leastWalkLeft 34 = .ok (.iconst 1, 1) := by decide +kernel
theorem dX7_leastWalkLeft_35 : decode cX7_leastWalkLeft 35 = .ok (.goto 4, 3) := by decide +kernel
theorem dX7_leastWalkLeft_38 : decode cX7_leastWalkLeft 38 = .ok (.iconst 0, 1) := by decide +kernel
theorem dX7_leastWalkLeft_39 : decode cX7_leastWalkLeft 39 = .ok (.istore 5, 2) := by decide +kernel
theorem dX7_leastWalkLeft_41 : decode cX7_leastWalkLeft 41 = .ok (.iload 5, 2) := by decide +kernel
theorem dX7_leastWalkLeft_43 : decode cX7_leastWalkLeft 43 = .ok (.ifCond .eq 27, 3) := by decide +kernel
theorem dX7_leastWalkLeft_46 : decode cX7_leastWalkLeft 46 = .ok (.iload_n 3, 1) := by decide +kernel
theorem dX7_leastWalkLeft_47 : decode cX7_leastWalkLeft 47 = .ok (.iconst (-1), 1) := by decide +kernel
theorem dX7_leastWalkLeft_48 : decode cX7_leastWalkLeft 48 = .ok (.if_icmp .eq 19, 3) := by decide +kernel
theorem dX7_leastWalkLeft_51 : decode cX7_leastWalkLeft 51 = .ok (.aload_n 2, 1) := by decide +kernel
theorem dX7_leastWalkLeft_52 : decode cX7_leastWalkLeft 52 = .ok (.getfield 66, 3) := by decide +kernel
theorem dX7_leastWalkLeft_55 : decode cX7_leastWalkLeft 55 = .ok (.iload 4, 2) := by decide +kernel
theorem dX7_leastWalkLeft_57 : decode cX7_leastWalkLeft 57 = .ok (.iaload, 1) := by decide +kernel
theorem dX7_leastWalkLeft_58 : decode cX7_leastWalkLeft 58 = .ok (.aload_n 2, 1) := by decide +kernel
theorem dX7_leastWalkLeft_59 : decode cX7_leastWalkLeft 59 = .ok (.getfield 66, 3) := by decide +kernel
theorem dX7_leastWalkLeft_62 : decode cX7_leastWalkLeft 62 = .ok (.iload_n 3, 1) := by decide +kernel
theorem dX7_leastWalkLeft_63 : decode cX7_leastWalkLeft 63 = .ok (.iaload, 1) := by decide +kernel
theorem dX7_leastWalkLeft_64 : decode cX7_leastWalkLeft 64 = .ok (.if_icmp .ge 6, 3) := by decide +kernel
theorem dX7_leastWalkLeft_67 : decode cX7_leastWalkLeft 67 = .ok (.iload 4, 2) := by decide +kernel
theorem dX7_leastWalkLeft_69 : decode cX7_leastWalkLeft 69 = .ok (.istore_n 3, 1) := by decide +kernel
theorem dX7_leastWalkLeft_70 : decode cX7_leastWalkLeft 70 = .ok (.iinc 4 1, 3) := by decide +kernel
theorem dX7_leastWalkLeft_73 : decode cX7_leastWalkLeft 73 = .ok (.goto (-68), 3) := by decide +kernel
theorem dX7_leastWalkLeft_76 : decode cX7_leastWalkLeft 76 = .ok (.iload_n 3, 1) := by decide +kernel
theorem dX7_leastWalkLeft_77 : decode cX7_leastWalkLeft 77 = .ok (.ireturn, 1) := by decide +kernel
set_option maxRecDepth 20000 in
theorem ggX8_init_X3_init : GoodIn wsX8_init wsX3_init := goodIn_r _ [17, 18, 2, 3, 19, 20, 21, 22, 23, 24, 25, 26, 35, 36, 37, 38, 39, 40, 41] (by decide +kernel) (by decide +kernel)
set_option maxRecDepth 20000 in
theorem gX8_init_X3_init_n36 : GoodIn wsX8_init (wsX3_init) := ggX8_init_X3_init
theorem dX8_init_0 : decode cX8_init 0 = .ok (.aload_n 0, 1) := by decide +kernel
theorem dX8_init_1 : decode cX8_init 1 = .ok (.invokespecial 3, 3) := by decide +kernel
theorem dX8_init_4 : decode cX8_init 4 = .ok (.aload_n 0, 1) := by decide +kernel
theorem dX8_init_5 : decode cX8_init 5 = .ok (.sipush 240, 3) := by decide +kernel
theorem dX8_init_8 : decode cX8_init 8 = .ok (.newarray .byte, 2) := by decide +kernel
theorem dX8_init_10 : decode cX8_init 10 = .ok (.putfield 9, 3) := by decide +kernel
theorem dX8_init_13 : decode cX8_init 13 = .ok (.aload_n 0, 1) := by decide +kernel
theorem dX8_init_14 : decode cX8_init 14 = .ok (.iconst 0, 1) := by decide +kernel
theorem dX8_init_15 : decode cX8_init 15 = .ok (.putfield 15, 3) := by decide +kernel
theorem dX8_init_18 : decode cX8_init 18 = .ok (.aload_n 0, 1) := by decide +kernel
theorem dX8_init_19 : decode cX8_init 19 = .ok (.iconst (-1), 1) := by decide +kernel
theorem dX8_init_20 : decode cX8_init 20 = .ok (.putfield 19, 3) := by decide +kernel
theorem dX8_init_23 : decode cX8_init 23 = .ok (.aload_n 0, 1) := by decide +kernel
theorem dX8_init_24 : decode cX8_init 24 = .ok (.iconst 0, 1) := by decide +kernel
theorem dX8_init_25 : decode cX8_init 25 = .ok (.putfield 22, 3) := by decide +kernel
theorem dX8_init_28 : decode cX8_init 28 = .ok (.aload_n 0, 1) := by decide +kernel
theorem dX8_init_29 : decode cX8_init 29 = .ok (.iconst 0, 1) := by decide +kernel
theorem dX8_init_30 : decode cX8_init 30 = .ok (.putfield 25, 3) := by decide +kernel
theorem dX8_init_33 : decode cX8_init 33 = .ok (.aload_n 0, 1) := by decide +kernel
theorem dX8_init_34 : decode cX8_init 34 = .ok (.iconst 0, 1) := by decide +kernel
theorem dX8_init_35 : decode cX8_init 35 = .ok (.putfield 28, 3) := by decide +kernel
theorem dX8_init_38 : decode cX8_init 38 = .ok (.aload_n 0, 1) := by decide +kernel
theorem dX8_init_39 : decode cX8_init 39 = .ok (.iconst 0, 1) := by decide +kernel
theorem dX8_init_40 : decode cX8_init 40 = .ok (.putfield 31, 3) := by decide +kernel
theorem dX8_init_43 : decode cX8_init 43 = .ok (.aload_n 0, 1) := by decide +kernel
theorem dX8_init_44 : decode cX8_init 44 = .ok (.new 34, 3) := by decide +kernel
theorem dX8_init_47 : decode cX8_init 47 = .ok (.dup, 1) := by decide +kernel
theorem dX8_init_48 : decode cX8_init 48 = .ok (.invokespecial 36, 3) := by decide +kernel
theorem dX8_init_51 : decode cX8_init 51 = .ok (.putfield 37, 3) := by decide +kernel
theorem dX8_init_54 : decode cX8_init 54 = .ok (.return_, 1) := by decide +kernel
theorem dX8_append_0 : decode cX8_append 0 = .ok (.iload_n 1, 1) := by decide +kernel
theorem dX8_append_1 : decode cX8_append 1 = .ok (.iconst 1, 1) := by decide +kernel
theorem dX8_append_2 : decode cX8_append 2 = .ok (.isub, 1) := by decide +kernel
theorem dX8_append_3 : decode cX8_append 3 = .ok (.istore 4, 2) := by decide +kernel
theorem dX8_append_5 : decode cX8_append 5 = .ok (.iload 4, 2) := by decide +kernel
theorem dX8_append_7 : decode cX8_append 7 = .ok (.ifCond .lt 47, 3) := by decide +kernel
theorem dX8_append_10 : decode cX8_append 10 = .ok (.aload_n 0, 1) := by decide +kernel
theorem dX8_append_11 : decode cX8_append 11 = .ok (.getfield 15, 3) := by decide +kernel
theorem dX8_append_14 : decode cX8_append 14 = .ok (.sipush 240, 3) := by decide +kernel
theorem dX8_append_17 : decode cX8_append 17 = .ok (.if_icmp .ge 37, 3) := by decide +kernel
theorem dX8_append_20 : decode cX8_append 20 = .ok (.aload_n 0, 1) := by decide +kernel
theorem dX8_append_21 : decode cX8_append 21 = .ok (.getfield 9, 3) := by decide +kernel
theorem dX8_append_24 : decode cX8_append 24 = .ok (.aload_n 0, 1) := by decide +kernel
theorem dX8_append_25 : decode cX8_append 25 = .ok (.getfield 15, 3) := by decide +kernel
theorem dX8_append_28 : decode cX8_append 28 = .ok (.lload_n 2, 1) := by decide +kernel
theorem dX8_append_29 : decode cX8_append 29 = .ok (.bipush 8, 2) := by decide +kernel
theorem dX8_append_31 : decode cX8_append 31 = .ok (.iload 4, 2) := by decide +kernel
theorem dX8_append_33 : decode cX8_append 33 = .ok (.imul, 1) := by decide +kernel
theorem dX8_append_34 : decode cX8_append 34 = .ok (.lushr, 1) := by decide +kernel
theorem dX8_append_35 : decode cX8_append 35 = .ok (.l2i, 1) := by decide +kernel
theorem dX8_append_36 : decode cX8_append 36 = .ok (.i2b, 1) := by decide +kernel
theorem dX8_append_37 : decode cX8_append 37 = .ok (.bastore, 1) := by decide +kernel
theorem dX8_append_38 : decode cX8_append 38 = .ok (.aload_n 0, 1) := by decide +kernel
theorem dX8_append_39 : decode cX8_append 39 = .ok (.dup, 1) := by decide +kernel
theorem dX8_append_40 : decode cX8_append 40 = .ok (.getfield 15, 3) := by decide +kernel
theorem dX8_append_43 : decode cX8_append 43 = .ok (.iconst 1, 1) := by decide +kernel
theorem dX8_append_44 : decode cX8_append 44 = .ok (.iadd, 1) := by decide +kernel
theorem dX8_append_45 : decode cX8_append 45 = .ok (.putfield 15, 3) := by decide +kernel
theorem dX8_append_48 : decode cX8_append 48 = .ok (.iinc 4 (-1), 3) := by decide +kernel
theorem dX8_append_51 : decode cX8_append 51 = .ok (.goto (-46), 3) := by decide +kernel
theorem dX8_append_54 : decode cX8_append 54 = .ok (.aload_n 0, 1) := by decide +kernel
theorem dX8_append_55 : decode cX8_append 55 = .ok (.getfield 15, 3) := by decide +kernel
theorem dX8_append_58 : decode cX8_append 58 = .ok (.ireturn, 1) := by decide +kernel
set_option maxRecDepth 20000 in
theorem ggX8_read_X3_clear : GoodIn wsX8_read wsX3_clear := goodIn_r _ [11, 12, 13, 14, 15, 16, 17, 10, 18, 19, 20, 21, 22, 23, 24, 25, 26, 27, 151, 152, 153, 154, 155, 156, 157] (by decide +kernel) (by decide +kernel)
set_option maxRecDepth 20000 in
theorem gX8_read_X3_clear : GoodIn wsX8_read (wsV RX8 41 RX3 yX3_clear wsX3_clear) := goodIn_app (goodIn_of _ (by decide +kernel)) ggX8_read_X3_clear
set_option maxRecDepth 20000 in
theorem ggX8_read_X8_skipBlanks : GoodIn wsX8_read wsX8_skipBlanks := goodIn_r _ [32, 4, 6, 33, 34, 35, 31, 36, 37, 143, 144, 145, 146, 147, 148, 149, 150] (by decide +kernel) (by decide +kernel)
set_option maxRecDepth 20000 in
theorem gX8_read_X8_skipBlanks : GoodIn wsX8_read (wsV RX8 44 RX8 yX8_skipBlanks wsX8_skipBlanks) := goodIn_app (goodIn_of _ (by decide +kernel)) ggX8_read_X8_skipBlanks
set_option maxRecDepth 20000 in
theorem ggX8_read_X8_readClause : GoodIn wsX8_read wsX8_readClause := goodIn_r _ [41, 4, 1, 42, 43, 44, 45, 46, 31, 47, 48, 49, 50, 51, 52, 53, 54, 55, 56, 57, 58, 59, 33, 34, 35, 36, 6, 37, 60, 61, 62, 63, 64, 65, 66, 67, 68, 69, 70, 71, 72, 73, 74, 75, 76, 77, 78, 79, 80, 81, 82, 83, 84, 85, 86, 87, 88, 89, 90, 91, 92, 93, 94, 95, 96, 97, 98, 99, 100, 101, 102, 2, 103, 104, 105, 106, 28, 29, 30, 32, 107, 108, 109, 110, 3, 111, 112, 113, 114, 115, 116, 117, 118, 25, 26, 27, 119, 120, 121, 122, 123, 124, 125, 10, 126, 12, 127, 128, 129, 130, 131, 132, 133, 134, 135, 136, 5, 137, 21, 22, 23, 24, 138, 139, 140, 141, 142, 16, 17, 18, 19, 143, 144, 145, 146, 147, 148, 149, 150, 151, 152, 153, 154, 155, 156, 157] (by decide +kernel) (by decide +kernel)
set_option maxRecDepth 20000 in
theorem gX8_read_X8_readClause : GoodIn wsX8_read (wsV RX8 47 RX8 yX8_readClause wsX8_readClause) := goodIn_app (goodIn_of _ (by decide +kernel)) ggX8_read_X8_readClause
theorem dX8_read_0 : decode cX8_read 0 = .ok (.aload_n 0, 1) := by decide +kernel
theorem dX8_read_1 : decode cX8_read 1 = .ok (.getfield 37, 3) := by decide +kernel
theorem dX8_read_4 : decode cX8_read 4 = .ok (.invokevirtual 41, 3) := by decide +kernel
theorem dX8_read_7 : decode cX8_read 7 = .ok (.aload_n 0, 1) := by decide +kernel
theorem dX8_read_8 : decode cX8_read 8 = .ok (.iconst 0, 1) := by decide +kernel
theorem dX8_read_9 : decode cX8_read 9 = .ok (.putfield 22, 3) := by decide +kernel
theorem dX8_read_12 : decode cX8_read 12 = .ok (.aload_n 0, 1) := by decide +kernel
theorem dX8_read_13 : decode cX8_read 13 = .ok (.iconst (-1), 1) := by decide +kernel
theorem dX8_read_14 : decode cX8_read 14 = .ok (.putfield 19, 3) := by decide +kernel
theorem dX8_read_17 : decode cX8_read 17 = .ok (.aload_n 0, 1) := by decide +kernel
theorem dX8_read_18 : decode cX8_read 18 = .ok (.iconst 0, 1) := by decide +kernel
theorem dX8_read_19 : decode cX8_read 19 = .ok (.putfield 25, 3) := by decide +kernel
theorem dX8_read_22 : decode cX8_read 22 = .ok (.aload_n 0, 1) := by decide +kernel
theorem dX8_read_23 : decode cX8_read 23 = .ok (.iconst 0, 1) := by decide +kernel
theorem dX8_read_24 : decode cX8_read 24 = .ok (.putfield 31, 3) := by decide +kernel
theorem dX8_read_27 : decode cX8_read 27 = .ok (.aload_n 0, 1) := by decide +kernel
theorem dX8_read_28 : decode cX8_read 28 = .ok (.invokevirtual 44, 3) := by decide +kernel
theorem dX8_read_31 : decode cX8_read 31 = .ok (.iconst 0, 1) := by decide +kernel
theorem dX8_read_32 : decode cX8_read 32 = .ok (.istore_n 1, 1) := by decide +kernel
theorem dX8_read_33 : decode cX8_read 33 = .ok (.iload_n 1, 1) := by decide +kernel
theorem dX8_read_34 : decode cX8_read 34 = .ok (.sipush 240, 3) := by decide +kernel
theorem dX8_read_37 : decode cX8_read 37 = .ok (.if_icmp .ge 35, 3) := by decide +kernel
theorem dX8_read_40 : decode cX8_read 40 = .ok (.aload_n 0, 1) := by decide +kernel
theorem dX8_read_41 : decode cX8_read 41 = .ok (.getfield 22, 3) := by decide +kernel
theorem dX8_read_44 : decode cX8_read 44 = .ok (.ifCond .ne 28, 3) := by decide +kernel
theorem dX8_read_47 : decode cX8_read 47 = .ok (.aload_n 0, 1) := by decide +kernel
theorem dX8_read_48 : decode cX8_read 48 = .ok (.getfield 25, 3) := by decide +kernel
theorem dX8_read_51 : decode cX8_read 51 = .ok (.aload_n 0, 1) := by decide +kernel
theorem dX8_read_52 : decode cX8_read 52 = .ok (.getfield 15, 3) := by decide +kernel
theorem dX8_read_55 : decode cX8_read 55 = .ok (.if_icmp .ge 17, 3) := by decide +kernel
theorem dX8_read_58 : decode cX8_read 58 = .ok (.aload_n 0, 1) := by decide +kernel
theorem dX8_read_59 : decode cX8_read 59 = .ok (.invokevirtual 47, 3) := by decide +kernel
theorem dX8_read_62 : decode cX8_read 62 = .ok (.aload_n 0, 1) := by decide +kernel
theorem dX8_read_63 : decode cX8_read 63 = .ok (.invokevirtual 44, 3) := by decide +kernel
theorem dX8_read_66 : decode cX8_read 66 = .ok (.iinc 1 1, 3) := by decide +kernel
theorem dX8_read_69 : decode cX8_read 69 = .ok (.goto (-36), 3) := by decide +kernel
theorem dX8_read_72 : decode cX8_read 72 = .ok (.aload_n 0, 1) := by decide +kernel
theorem dX8_read_73 : decode cX8_read 73 = .ok (.iconst 0, 1) := by decide +kernel
theorem dX8_read_74 : decode cX8_read 74 = .ok (.putfield 15, 3) := by decide +kernel
theorem dX8_read_77 : decode cX8_read 77 = .ok (.aload_n 0, 1) := by decide +kernel
theorem dX8_read_78 : decode cX8_read 78 = .ok (.getfield 22, 3) := by decide +kernel
theorem dX8_read_81 : decode cX8_read 81 = .ok (.ireturn, 1) := by decide +kernel
theorem dX8_changeDraft_0 : decode cX8_changeDraft 0 = .ok (.aload_n 0, 1) := by decide +kernel
theorem dX8_changeDraft_1 : decode cX8_changeDraft 1 = .ok (.getfield 37, 3) := by decide +kernel
theorem dX8_changeDraft_4 : decode cX8_changeDraft 4 = .ok (.astore_n 2, 1) := by decide +kernel
theorem dX8_changeDraft_5 : decode cX8_changeDraft 5 = .ok (.aload_n 0, 1) := by decide +kernel
theorem dX8_changeDraft_6 : decode cX8_changeDraft 6 = .ok (.aload_n 1, 1) := by decide +kernel
theorem dX8_changeDraft_7 : decode cX8_changeDraft 7 = .ok (.putfield 37, 3) := by decide +kernel
theorem dX8_changeDraft_10 : decode cX8_changeDraft 10 = .ok (.aload_n 2, 1) := by decide +kernel
theorem dX8_changeDraft_11 : decode cX8_changeDraft 11 = .ok (.areturn, 1) := by decide +kernel
set_option maxRecDepth 20000 in
theorem ggX8_readClause_X8_isHere : GoodIn wsX8_readClause wsX8_isHere := goodIn_r _ [9, 1, 10, 11, 12, 13, 14, 15, 16, 17, 18, 19, 20, 21, 22, 23, 24, 8, 25, 26, 27, 28, 29, 30, 31, 32, 33, 34, 35, 36, 37, 38, 39, 40, 41, 42, 43, 44, 45, 46, 47, 48, 49, 50, 51, 52, 53, 54, 55, 56, 57, 58, 59, 60, 61, 62, 63, 64, 131, 132, 133, 134, 135, 136, 137, 138] (by decide +kernel) (by decide +kernel)
set_option maxRecDepth 20000 in
theorem gX8_readClause_X8_isHere : GoodIn wsX8_readClause (wsV RX8 52 RX8 yX8_isHere wsX8_isHere) := goodIn_app (goodIn_of _ (by decide +kernel)) ggX8_readClause_X8_isHere
set_option maxRecDepth 20000 in
theorem ggX8_readClause_X8_readRow : GoodIn wsX8_readClause wsX8_readRow := goodIn_r _ [68, 2, 69, 70, 71, 72, 73, 74, 8, 75, 1, 76, 77, 78, 79, 26, 22, 23, 24, 25, 27, 5, 6, 7, 9, 10, 11, 12, 13, 14, 15, 16, 17, 18, 19, 20, 21, 28, 29, 30, 31, 32, 33, 34, 35, 36, 37, 38, 39, 40, 41, 42, 43, 44, 45, 46, 47, 48, 49, 50, 51, 52, 53, 54, 55, 56, 57, 58, 59, 60, 61, 62, 63, 64, 80, 81, 82, 83, 84, 85, 86, 87, 88, 89, 90, 91, 92, 93, 94, 95, 96, 97, 98, 99, 100, 101, 102, 103, 104, 105, 106, 107, 131, 132, 133, 134, 135, 136, 137, 138, 139, 140, 141, 142, 143, 144, 145] (by decide +kernel) (by decide +kernel)
set_option maxRecDepth 20000 in
theorem gX8_readClause_X8_readRow : GoodIn wsX8_readClause (wsV RX8 56 RX8 yX8_readRow wsX8_readRow) := goodIn_app (goodIn_of _ (by decide +kernel)) ggX8_readClause_X8_readRow
set_option maxRecDepth 20000 in
theorem ggX8_readClause_X8_readOdds : GoodIn wsX8_readClause wsX8_readOdds := goodIn_r _ [111, 70, 2, 72, 73, 74, 8, 75, 1, 76, 77, 78, 79, 26, 22, 23, 24, 25, 27, 5, 6, 7, 9, 10, 11, 12, 13, 14, 15, 16, 17, 18, 19, 20, 21, 28, 29, 30, 31, 32, 33, 34, 35, 36, 37, 38, 39, 40, 41, 42, 43, 44, 45, 46, 47, 48, 49, 50, 51, 52, 53, 54, 55, 56, 57, 58, 59, 60, 61, 62, 63, 64, 80, 81, 82, 83, 71, 84, 85, 86, 87, 88, 89, 90, 91, 92, 93, 94, 95, 112, 113, 114, 115, 116, 96, 97, 98, 99, 117, 118, 119, 103, 120, 121, 131, 132, 133, 134, 135, 136, 137, 138, 139, 140, 141, 142, 143, 144, 145] (by decide +kernel) (by decide +kernel)
set_option maxRecDepth 20000 in
theorem gX8_readClause_X8_readOdds : GoodIn wsX8_readClause (wsV RX8 61 RX8 yX8_readOdds wsX8_readOdds) := goodIn_app (goodIn_of _ (by decide +kernel)) ggX8_readClause_X8_readOdds
set_option maxRecDepth 20000 in
theorem ggX8_readClause_X8_tellOnce : GoodIn wsX8_readClause wsX8_tellOnce := goodIn_r _ [115, 116, 80, 81, 82, 8, 83, 71, 84, 131, 132, 133, 134, 135, 136, 137, 138] (by decide +kernel) (by decide +kernel)
set_option maxRecDepth 20000 in
theorem gX8_readClause_X8_tellOnce : GoodIn wsX8_readClause (wsV RX8 66 RX8 yX8_tellOnce wsX8_tellOnce) := goodIn_app (goodIn_of _ (by decide +kernel)) ggX8_readClause_X8_tellOnce
set_option maxRecDepth 20000 in
theorem ggX8_readClause_X8_readWeights : GoodIn wsX8_readClause wsX8_readWeights := goodIn_r _ [125, 2, 72, 73, 74, 8, 75, 1, 76, 77, 78, 79, 26, 22, 23, 24, 25, 27, 5, 6, 7, 9, 10, 11, 12, 13, 14, 15, 16, 17, 18, 19, 20, 21, 28, 29, 30, 31, 32, 33, 34, 35, 36, 37, 38, 39, 40, 41, 42, 43, 44, 45, 46, 47, 48, 49, 50, 51, 52, 53, 54, 55, 56, 57, 58, 59, 60, 61, 62, 63, 64, 80, 81, 82, 83, 71, 84, 85, 86, 87, 88, 70, 89, 90, 91, 92, 93, 94, 95, 96, 97, 98, 99, 126, 127, 128, 103, 129, 130, 131, 132, 133, 134, 135, 136, 137, 138, 139, 140, 141, 142, 143, 144, 145] (by decide +kernel) (by decide +kernel)
set_option maxRecDepth 20000 in
theorem gX8_readClause_X8_readWeights : GoodIn wsX8_readClause (wsV RX8 70 RX8 yX8_readWeights wsX8_readWeights) := goodIn_app (goodIn_of _ (by decide +kernel)) ggX8_readClause_X8_readWeights
set_option maxRecDepth 20000 in
theorem ggX8_readClause_X8_needWord : GoodIn wsX8_readClause wsX8_needWord := goodIn_r _ [75, 1, 76, 77, 78, 8, 79, 26, 22, 23, 24, 25, 27, 5, 6, 7, 9, 10, 11, 12, 13, 14, 15, 16, 17, 18, 19, 20, 21, 28, 29, 30, 31, 32, 33, 34, 35, 36, 37, 38, 39, 40, 41, 42, 43, 44, 45, 46, 47, 48, 49, 50, 51, 52, 53, 54, 55, 56, 57, 58, 59, 60, 61, 62, 63, 64, 80, 81, 82, 83, 71, 84, 131, 132, 133, 134, 135, 136, 137, 138] (by decide +kernel) (by decide +kernel)
set_option maxRecDepth 20000 in
theorem gX8_readClause_X8_needWord : GoodIn wsX8_readClause (wsV RX8 75 RX8 yX8_needWord wsX8_needWord) := goodIn_app (goodIn_of _ (by decide +kernel)) ggX8_readClause_X8_needWord
set_option maxRecDepth 20000 in
theorem ggX8_readClause_X8_needNumber : GoodIn wsX8_readClause wsX8_needNumber := goodIn_r _ [88, 1, 70, 26, 76, 77, 78, 8, 79, 22, 23, 24, 25, 27, 89, 90, 91, 92, 93, 94, 95, 80, 81, 82, 83, 71, 84, 131, 132, 133, 134, 135, 136, 137, 138] (by decide +kernel) (by decide +kernel)
set_option maxRecDepth 20000 in
theorem gX8_readClause_X8_needNumber : GoodIn wsX8_readClause (wsV RX8 79 RX8 yX8_needNumber wsX8_needNumber) := goodIn_app (goodIn_of _ (by decide +kernel)) ggX8_readClause_X8_needNumber
set_option maxRecDepth 20000 in
theorem ggX8_readClause_X8_needEnd : GoodIn wsX8_readClause wsX8_needEnd := goodIn_r _ [99, 1, 76, 77, 78, 8, 79, 26, 22, 23, 24, 25, 27, 80, 81, 82, 83, 71, 84, 131, 132, 133, 134, 135, 136, 137, 138] (by decide +kernel) (by decide +kernel)
set_option maxRecDepth 20000 in
theorem gX8_readClause_X8_needEnd : GoodIn wsX8_readClause (wsV RX8 83 RX8 yX8_needEnd wsX8_needEnd) := goodIn_app (goodIn_of _ (by decide +kernel)) ggX8_readClause_X8_needEnd
set_option maxRecDepth 20000 in
theorem ggX8_readClause_X8_fail : GoodIn wsX8_readClause wsX8_fail := goodIn_r _ [83, 71, 84, 131, 132, 133, 134, 135, 136, 137, 138] (by decide +kernel) (by decide +kernel)
set_option maxRecDepth 20000 in
theorem gX8_readClause_X8_fail : GoodIn wsX8_readClause (wsV RX8 94 RX8 yX8_fail wsX8_fail) := goodIn_app (goodIn_of _ (by decide +kernel)) ggX8_readClause_X8_fail
theorem dX8_readClause_0 : decode cX8_readClause 0 = .ok (.aload_n 0, 1) := by decide +kernel
theorem dX8_readClause_1 : decode cX8_readClause 1 = .ok (.getfield 25, 3) := by decide +kernel
theorem dX8_readClause_4 : decode cX8_readClause 4 = .ok (.istore_n 1, 1) := by decide +kernel
theorem dX8_readClause_5 : decode cX8_readClause 5 = .ok (.aload_n 0, 1) := by decide +kernel
theorem dX8_readClause_6 : decode cX8_readClause 6 = .ok (.ldc 50, 2) := by decide +kernel
theorem dX8_readClause_8 : decode cX8_readClause 8 = .ok (.invokevirtual 52, 3) := by decide +kernel
theorem dX8_readClause_11 : decode cX8_readClause 11 = .ok (.ifCond .eq 10, 3) := by decide +kernel
theorem dX8_readClause_14 : decode cX8_readClause 14 = .ok (.aload_n 0, 1) := by decide +kernel
theorem dX8_readClause_15 : decode cX8_readClause 15 = .ok (.invokevirtual 56, 3) := by decide +kernel
theorem dX8_readClause_18 : decode cX8_readClause 18 = .ok (.goto 138, 3) := by decide +kernel
theorem dX8_readClause_21 : decode cX8_readClause 21 = .ok (.aload_n 0, 1) := by decide +kernel
theorem dX8_readClause_22 : decode cX8_readClause 22 = .ok (.ldc 59, 2) := by decide +kernel
theorem dX8_readClause_24 : decode cX8_readClause 24 = .ok (.invokevirtual 52, 3) := by decide +kernel
theorem dX8_readClause_27 : decode cX8_readClause 27 = .ok (.ifCond .eq 10, 3) := by decide +kernel
theorem dX8_readClause_30 : decode cX8_readClause 30 = .ok (.aload_n 0, 1) := by decide +kernel
theorem dX8_readClause_31 : decode cX8_readClause 31 = .ok (.invokevirtual 61, 3) := by decide +kernel
theorem dX8_readClause_34 : decode cX8_readClause 34 = .ok (.goto 122, 3) := by decide +kernel
theorem dX8_readClause_37 : decode cX8_readClause 37 = .ok (.aload_n 0, 1) := by decide +kernel
theorem dX8_readClause_38 : decode cX8_readClause 38 = .ok (.ldc 64, 2) := by decide +kernel
theorem dX8_readClause_40 : decode cX8_readClause 40 = .ok (.invokevirtual 52, 3) := by decide +kernel
theorem dX8_readClause_43 : decode cX8_readClause 43 = .ok (.ifCond .eq 17, 3) := by decide +kernel
theorem dX8_readClause_46 : decode cX8_readClause 46 = .ok (.aload_n 0, 1) := by decide +kernel
theorem dX8_readClause_47 : decode cX8_readClause 47 = .ok (.bipush 16, 2) := by decide +kernel
theorem dX8_readClause_49 : decode cX8_readClause 49 = .ok (.iload_n 1, 1) := by decide +kernel
theorem dX8_readClause_50 : decode cX8_readClause 50 = .ok (.invokevirtual 66, 3) := by decide +kernel
theorem dX8_readClause_53 : decode cX8_readClause 53 = .ok (.aload_n 0, 1) := by decide +kernel
theorem dX8_readClause_54 : decode cX8_readClause 54 = .ok (.invokevirtual 70, 3) := by decide +kernel
theorem dX8_readClause_57 : decode cX8_readClause 57 = .ok (.goto 99, 3) := by decide +kernel
theorem dX8_readClause_60 : decode cX8_readClause 60 = .ok (.aload_n 0, 1) := by decide +kernel
theorem dX8_readClause_61 : decode cX8_readClause 61 = .ok (.ldc 73, 2) := by decide +kernel
theorem dX8_readClause_63 : decode cX8_readClause 63 = .ok (.invokevirtual 52, 3) := by decide +kernel
theorem dX8_readClause_66 : decode cX8_readClause 66 = .ok (.ifCond .eq 39, 3) := by decide +kernel
theorem dX8_readClause_69 : decode cX8_readClause 69 = .ok (.aload_n 0, 1) := by decide +kernel
theorem dX8_readClause_70 : decode cX8_readClause 70 = .ok (.bipush 32, 2) := by decide +kernel
theorem dX8_readClause_72 : decode cX8_readClause 72 = .ok (.iload_n 1, 1) := by decide +kernel
theorem dX8_readClause_73 : decode cX8_readClause 73 = .ok (.invokevirtual 66, 3) := by decide +kernel
theorem dX8_readClause_76 : decode cX8_readClause 76 = .ok (.aload_n 0, 1) := by decide +kernel
theorem dX8_readClause_77 : decode cX8_readClause 77 = .ok (.ldc 73, 2) := by decide +kernel
theorem dX8_readClause_79 : decode cX8_readClause 79 = .ok (.invokevirtual 75, 3) := by decide +kernel
theorem dX8_readClause_82 : decode cX8_readClause 82 = .ok (.aload_n 0, 1) := by decide +kernel
theorem dX8_readClause_83 : decode cX8_readClause 83 = .ok (.iconst 0, 1) := by decide +kernel
theorem dX8_readClause_84 : decode cX8_readClause 84 = .ok (.bipush 20, 2) := by decide +kernel
theorem dX8_readClause_86 : decode cX8_readClause 86 = .ok (.invokevirtual 79, 3) := by decide +kernel
theorem dX8_readClause_89 : decode cX8_readClause 89 = .ok (.istore_n 2, 1) := by decide +kernel
theorem dX8_readClause_90 : decode cX8_readClause 90 = .ok (.aload_n 0, 1) := by decide +kernel
theorem dX8_readClause_91 : decode cX8_readClause 91 = .ok (.invokevirtual 83, 3) := by decide +kernel
theorem dX8_readClause_94 : decode cX8_readClause 94 = .ok (.aload_n 0, 1) := by decide +kernel
theorem dX8_readClause_95 : decode cX8_readClause 95 = .ok (.getfield 37, 3) := by decide +kernel
theorem dX8_readClause_98 : decode cX8_readClause 98 = .ok (.iload_n 2, 1) := by decide +kernel
theorem dX8_readClause_99 : decode cX8_readClause 99 = .ok (.putfield 86, 3) := by decide +kernel
theorem dX8_readClause_102 : decode cX8_readClause 102 = .ok (.goto 54, 3) := by decide +kernel
theorem dX8_readClause_105 : decode cX8_readClause 105 = .ok (.aload_n 0, 1) := by decide +kernel
theorem dX8_readClause_106 : decode cX8_readClause 106 = .ok (.ldc 89, 2) := by decide +kernel
theorem dX8_readClause_108 : decode cX8_readClause 108 = .ok (.invokevirtual 52, 3) := by decide +kernel
theorem dX8_readClause_111 : decode cX8_readClause 111 = .ok (.ifCond .eq 39, 3) := by decide +kernel
theorem dX8_readClause_114 : decode cX8_readClause 114 = .ok (.aload_n 0, 1) := by decide +kernel
theorem dX8_readClause_115 : decode cX8_readClause 115 = .ok (.bipush 64, 2) := by decide +kernel
theorem dX8_readClause_117 : decode cX8_readClause 117 = .ok (.iload_n 1, 1) := by decide +kernel
theorem dX8_readClause_118 : decode cX8_readClause 118 = .ok (.invokevirtual 66, 3) := by decide +kernel
theorem dX8_readClause_121 : decode cX8_readClause 121 = .ok (.aload_n 0, 1) := by decide +kernel
theorem dX8_readClause_122 : decode cX8_readClause 122 = .ok (.ldc 89, 2) := by decide +kernel
theorem dX8_readClause_124 : decode cX8_readClause 124 = .ok (.invokevirtual 75, 3) := by decide +kernel
theorem dX8_readClause_127 : decode cX8_readClause 127 = .ok (.aload_n 0, 1) := by decide +kernel
theorem dX8_readClause_128 : decode cX8_readClause 128 = .ok (.iconst 0, 1) := by decide +kernel
theorem dX8_readClause_129 : decode cX8_readClause 129 = .ok (.bipush 20, 2) := by decide +kernel
theorem dX8_readClause_131 : decode cX8_readClause 131 = .ok (.invokevirtual 79, 3) := by decide +kernel
theorem dX8_readClause_134 : decode cX8_readClause 134 = .ok (.istore_n 2, 1) := by decide +kernel
theorem dX8_readClause_135 : decode cX8_readClause 135 = .ok (.aload_n 0, 1) := by decide +kernel
theorem dX8_readClause_136 : decode cX8_readClause 136 = .ok (.invokevirtual 83, 3) := by decide +kernel
theorem dX8_readClause_139 : decode cX8_readClause 139 = .ok (.aload_n 0, 1) := by decide +kernel
theorem dX8_readClause_140 : decode cX8_readClause 140 = .ok (.getfield 37, 3) := by decide +kernel
theorem dX8_readClause_143 : decode cX8_readClause 143 = .ok (.iload_n 2, 1) := by decide +kernel
theorem dX8_readClause_144 : decode cX8_readClause 144 = .ok (.putfield 91, 3) := by decide +kernel
theorem dX8_readClause_147 : decode cX8_readClause 147 = .ok (.goto 9, 3) := by decide +kernel
theorem dX8_readClause_150 : decode cX8_readClause 150 = .ok (.aload_n 0, 1) := by decide +kernel
theorem dX8_readClause_151 : decode cX8_readClause 151 = .ok (.iconst 1, 1) := by decide +kernel
theorem dX8_readClause_152 : decode cX8_readClause 152 = .ok (.iload_n 1, 1) := by decide +kernel
theorem dX8_readClause_153 : decode cX8_readClause 153 = .ok (.invokevirtual 94, 3) := by decide +kernel
theorem dX8_readClause_156 : decode cX8_readClause 156 = .ok (.return_, 1) := by decide +kernel
set_option maxRecDepth 20000 in
theorem ggX8_readRow_X8_needWord : GoodIn wsX8_readRow wsX8_needWord := goodIn_r _ [9, 10, 11, 12, 13, 8, 14, 15, 16, 17, 18, 19, 20, 21, 22, 23, 24, 25, 26, 27, 28, 29, 30, 31, 32, 33, 34, 35, 36, 37, 38, 39, 40, 41, 42, 43, 44, 45, 46, 47, 48, 49, 50, 51, 52, 53, 54, 55, 56, 57, 58, 59, 60, 61, 62, 63, 64, 65, 66, 67, 68, 69, 70, 71, 72, 73, 74, 75, 76, 77, 4, 78, 102, 103, 104, 105, 106, 107, 108, 109] (by decide +kernel) (by decide +kernel)
set_option maxRecDepth 20000 in
theorem gX8_readRow_X8_needWord : GoodIn wsX8_readRow (wsV RX8 75 RX8 yX8_needWord wsX8_needWord) := goodIn_app (goodIn_of _ (by decide +kernel)) ggX8_readRow_X8_needWord
set_option maxRecDepth 20000 in
theorem ggX8_readRow_X8_needNumber : GoodIn wsX8_readRow wsX8_needNumber := goodIn_r _ [82, 10, 3, 15, 11, 12, 13, 8, 14, 16, 17, 18, 19, 20, 83, 84, 85, 86, 87, 88, 89, 74, 75, 76, 77, 4, 78, 102, 103, 104, 105, 106, 107, 108, 109] (by decide +kernel) (by decide +kernel)
set_option maxRecDepth 20000 in
theorem gX8_readRow_X8_needNumber : GoodIn wsX8_readRow (wsV RX8 79 RX8 yX8_needNumber wsX8_needNumber) := goodIn_app (goodIn_of _ (by decide +kernel)) ggX8_readRow_X8_needNumber
set_option maxRecDepth 20000 in
theorem ggX8_readRow_X8_fail : GoodIn wsX8_readRow wsX8_fail := goodIn_r _ [77, 4, 78, 102, 103, 104, 105, 106, 107, 108, 109] (by decide +kernel) (by decide +kernel)
set_option maxRecDepth 20000 in
theorem gX8_readRow_X8_fail : GoodIn wsX8_readRow (wsV RX8 94 RX8 yX8_fail wsX8_fail) := goodIn_app (goodIn_of _ (by decide +kernel)) ggX8_readRow_X8_fail
set_option maxRecDepth 20000 in
theorem ggX8_readRow_X8_needEnd : GoodIn wsX8_readRow wsX8_needEnd := goodIn_r _ [93, 10, 11, 12, 13, 8, 14, 15, 16, 17, 18, 19, 20, 74, 75, 76, 77, 4, 78, 102, 103, 104, 105, 106, 107, 108, 109] (by decide +kernel) (by decide +kernel)
set_option maxRecDepth 20000 in
theorem gX8_readRow_X8_needEnd : GoodIn wsX8_readRow (wsV RX8 83 RX8 yX8_needEnd wsX8_needEnd) := goodIn_app (goodIn_of _ (by decide +kernel)) ggX8_readRow_X8_needEnd
set_option maxRecDepth 20000 in
theorem ggX8_readRow_X3_addRow : GoodIn wsX8_readRow wsX3_addRow := goodIn_r _ [98, 99, 100, 101, 110, 111, 112, 113, 114, 115, 116] (by decide +kernel) (by decide +kernel)
set_option maxRecDepth 20000 in
theorem gX8_readRow_X3_addRow : GoodIn wsX8_readRow (wsV RX8 104 RX3 yX3_addRow wsX3_addRow) := goodIn_app (goodIn_of _ (by decide +kernel)) ggX8_readRow_X3_addRow
theorem dX8_readRow_0 : decode cX8_readRow 0 = .ok (.aload_n 0, 1) := by decide +kernel
theorem dX8_readRow_1 : decode cX8_readRow 1 = .ok (.ldc 50, 2) := by decide +kernel
theorem dX8_readRow_3 : decode cX8_readRow 3 = .ok (.invokevirtual 75, 3) := by decide +kernel
theorem dX8_readRow_6 : decode cX8_readRow 6 = .ok (.aload_n 0, 1) := by decide +kernel
theorem dX8_readRow_7 : decode cX8_readRow 7 = .ok (.iconst 1, 1) := by decide +kernel
theorem dX8_readRow_8 : decode cX8_readRow 8 = .ok (.bipush 24, 2) := by decide +kernel
theorem dX8_readRow_10 : decode cX8_readRow 10 = .ok (.invokevirtual 79, 3) := by decide +kernel
theorem dX8_readRow_13 : decode cX8_readRow 13 = .ok (.istore_n 1, 1) := by decide +kernel
theorem dX8_readRow_14 : decode cX8_readRow 14 = .ok (.aload_n 0, 1) := by decide +kernel
theorem dX8_readRow_15 : decode cX8_readRow 15 = .ok (.getfield 37, 3) := by decide +kernel
theorem dX8_readRow_18 : decode cX8_readRow 18 = .ok (.getfield 97, 3) := by decide +kernel
theorem dX8_readRow_21 : decode cX8_readRow 21 = .ok (.iload_n 1, 1) := by decide +kernel
theorem dX8_readRow_22 : decode cX8_readRow 22 = .ok (.iadd, 1) := by decide +kernel
theorem dX8_readRow_23 : decode cX8_readRow 23 = .ok (.bipush 24, 2) := by decide +kernel
theorem dX8_readRow_25 : decode cX8_readRow 25 = .ok (.if_icmp .le 12, 3) := by decide +kernel
theorem dX8_readRow_28 : decode cX8_readRow 28 = .ok (.aload_n 0, 1) := by decide +kernel
theorem dX8_readRow_29 : decode cX8_readRow 29 = .ok (.iconst 4, 1) := by decide +kernel
theorem dX8_readRow_30 : decode cX8_readRow 30 = .ok (.aload_n 0, 1) := by decide +kernel
theorem dX8_readRow_31 : decode cX8_readRow 31 = .ok (.getfield 28, 3) := by decide +kernel
theorem dX8_readRow_34 : decode cX8_readRow 34 = .ok (.invokevirtual 94, 3) := by decide +kernel
theorem dX8_readRow_37 : decode cX8_readRow 37 = .ok (.aload_n 0, 1) := by decide +kernel
theorem dX8_readRow_38 : decode cX8_readRow 38 = .ok (.ldc 100, 2) := by decide +kernel
theorem dX8_readRow_40 : decode cX8_readRow 40 = .ok (.invokevirtual 75, 3) := by decide +kernel
theorem dX8_readRow_43 : decode cX8_readRow 43 = .ok (.aload_n 0, 1) := by decide +kernel
theorem dX8_readRow_44 : decode cX8_readRow 44 = .ok (.iconst 0, 1) := by decide +kernel
theorem dX8_readRow_45 : decode cX8_readRow 45 = .ok (.iconst 2, 1) := by decide +kernel
theorem dX8_readRow_46 : decode cX8_readRow 46 = .ok (.invokevirtual 79, 3) := by decide +kernel
theorem dX8_readRow_49 : decode cX8_readRow 49 = .ok (.istore_n 2, 1) := by decide +kernel
theorem dX8_readRow_50 : decode cX8_readRow 50 = .ok (.aload_n 0, 1) := by decide +kernel
theorem dX8_readRow_51 : decode cX8_readRow 51 = .ok (.ldc 102, 2) := by decide +kernel
theorem dX8_readRow_53 : decode cX8_readRow 53 = .ok (.invokevirtual 75, 3) := by decide +kernel
theorem dX8_readRow_56 : decode cX8_readRow 56 = .ok (.aload_n 0, 1) := by decide +kernel
theorem dX8_readRow_57 : decode cX8_readRow 57 = .ok (.iconst 0, 1) := by decide +kernel
theorem dX8_readRow_58 : decode cX8_readRow 58 = .ok (.bipush 99, 2) := by decide +kernel
theorem dX8_readRow_60 : decode cX8_readRow 60 = .ok (.invokevirtual 79, 3) := by decide +kernel
theorem dX8_readRow_63 : decode cX8_readRow 63 = .ok (.istore_n 3, 1) := by decide +kernel
theorem dX8_readRow_64 : decode cX8_readRow 64 = .ok (.aload_n 0, 1) := by decide +kernel
theorem dX8_readRow_65 : decode cX8_readRow 65 = .ok (.invokevirtual 83, 3) := by decide +kernel
theorem dX8_readRow_68 : decode cX8_readRow 68 = .ok (.aload_n 0, 1) := by decide +kernel
theorem dX8_readRow_69 : decode cX8_readRow 69 = .ok (.getfield 22, 3) := by decide +kernel
theorem dX8_readRow_72 : decode cX8_readRow 72 = .ok (.ifCond .ne 13, 3) := by decide +kernel
theorem dX8_readRow_75 : decode cX8_readRow 75 = .ok (.aload_n 0, 1) := by decide +kernel
theorem dX8_readRow_76 : decode cX8_readRow 76 = .ok (.getfield 37, 3) := by decide +kernel
theorem dX8_readRow_79 : decode cX8_readRow 79 = .ok (.iload_n 1, 1) := by decide +kernel
theorem dX8_readRow_80 : decode cX8_readRow 80 = .ok (.iload_n 2, 1) := by decide +kernel
theorem dX8_readRow_81 : decode cX8_readRow 81 = .ok (.iload_n 3, 1) := by decide +kernel
theorem dX8_readRow_82 : decode cX8_readRow 82 = .ok (.invokevirtual 104, 3) := by decide +kernel
theorem dX8_readRow_85 : decode cX8_readRow 85 = .ok (.return_, 1) := by decide +kernel
set_option maxRecDepth 20000 in
theorem ggX8_readOdds_X8_needWord : GoodIn wsX8_readOdds wsX8_needWord := goodIn_r _ [7, 8, 9, 10, 11, 6, 12, 13, 14, 15, 16, 17, 18, 19, 20, 21, 22, 23, 24, 25, 26, 27, 28, 29, 30, 31, 32, 33, 34, 35, 36, 37, 38, 39, 40, 41, 42, 43, 44, 45, 46, 47, 48, 49, 50, 51, 52, 53, 54, 55, 56, 57, 58, 59, 60, 61, 62, 63, 64, 65, 66, 67, 68, 69, 70, 71, 72, 73, 74, 75, 76, 77, 104, 105, 106, 107, 108, 109, 110, 111] (by decide +kernel) (by decide +kernel)
set_option maxRecDepth 20000 in
theorem gX8_readOdds_X8_needWord : GoodIn wsX8_readOdds (wsV RX8 75 RX8 yX8_needWord wsX8_needWord) := goodIn_app (goodIn_of _ (by decide +kernel)) ggX8_readOdds_X8_needWord
set_option maxRecDepth 20000 in
theorem ggX8_readOdds_X8_needNumber : GoodIn wsX8_readOdds wsX8_needNumber := goodIn_r _ [81, 8, 1, 13, 9, 10, 11, 6, 12, 14, 15, 16, 17, 18, 82, 83, 84, 85, 86, 87, 88, 72, 73, 74, 75, 76, 77, 104, 105, 106, 107, 108, 109, 110, 111] (by decide +kernel) (by decide +kernel)
set_option maxRecDepth 20000 in
theorem gX8_readOdds_X8_needNumber : GoodIn wsX8_readOdds (wsV RX8 79 RX8 yX8_needNumber wsX8_needNumber) := goodIn_app (goodIn_of _ (by decide +kernel)) ggX8_readOdds_X8_needNumber
set_option maxRecDepth 20000 in
theorem ggX8_readOdds_X8_tellOnce : GoodIn wsX8_readOdds wsX8_tellOnce := goodIn_r _ [92, 93, 72, 73, 74, 6, 75, 76, 77, 104, 105, 106, 107, 108, 109, 110, 111] (by decide +kernel) (by decide +kernel)
set_option maxRecDepth 20000 in
theorem gX8_readOdds_X8_tellOnce : GoodIn wsX8_readOdds (wsV RX8 66 RX8 yX8_tellOnce wsX8_tellOnce) := goodIn_app (goodIn_of _ (by decide +kernel)) ggX8_readOdds_X8_tellOnce
set_option maxRecDepth 20000 in
theorem ggX8_readOdds_X8_fail : GoodIn wsX8_readOdds wsX8_fail := goodIn_r _ [75, 76, 77, 104, 105, 106, 107, 108, 109, 110, 111] (by decide +kernel) (by decide +kernel)
set_option maxRecDepth 20000 in
theorem gX8_readOdds_X8_fail : GoodIn wsX8_readOdds (wsV RX8 94 RX8 yX8_fail wsX8_fail) := goodIn_app (goodIn_of _ (by decide +kernel)) ggX8_readOdds_X8_fail
set_option maxRecDepth 20000 in
theorem ggX8_readOdds_X8_needEnd : GoodIn wsX8_readOdds wsX8_needEnd := goodIn_r _ [97, 8, 9, 10, 11, 6, 12, 13, 14, 15, 16, 17, 18, 72, 73, 74, 75, 76, 77, 104, 105, 106, 107, 108, 109, 110, 111] (by decide +kernel) (by decide +kernel)
set_option maxRecDepth 20000 in
theorem gX8_readOdds_X8_needEnd : GoodIn wsX8_readOdds (wsV RX8 83 RX8 yX8_needEnd wsX8_needEnd) := goodIn_app (goodIn_of _ (by decide +kernel)) ggX8_readOdds_X8_needEnd
set_option maxRecDepth 20000 in
theorem ggX8_readOdds_X3_tellShares : GoodIn wsX8_readOdds wsX3_tellShares := goodIn_r _ [102, 103, 86, 87, 88, 112, 113, 114, 115, 116, 117, 118] (by decide +kernel) (by decide +kernel)
set_option maxRecDepth 20000 in
theorem gX8_readOdds_X3_tellShares : GoodIn wsX8_readOdds (wsV RX8 108 RX3 yX3_tellShares wsX3_tellShares) := goodIn_app (goodIn_of _ (by decide +kernel)) ggX8_readOdds_X3_tellShares
theorem dX8_readOdds_0 : decode cX8_readOdds 0 = .ok (.aload_n 0, 1) := by decide +kernel
theorem dX8_readOdds_1 : decode cX8_readOdds 1 = .ok (.ldc 59, 2) := by decide +kernel
theorem dX8_readOdds_3 : decode cX8_readOdds 3 = .ok (.invokevirtual 75, 3) := by decide +kernel
theorem dX8_readOdds_6 : decode cX8_readOdds 6 = .ok (.aload_n 0, 1) := by decide +kernel
theorem dX8_readOdds_7 : decode cX8_readOdds 7 = .ok (.iconst 0, 1) := by decide +kernel
theorem dX8_readOdds_8 : decode cX8_readOdds 8 = .ok (.iconst 3, 1) := by decide +kernel
theorem dX8_readOdds_9 : decode cX8_readOdds 9 = .ok (.invokevirtual 79, 3) := by decide +kernel
theorem dX8_readOdds_12 : decode cX8_readOdds 12 = .ok (.istore_n 1, 1) := by decide +kernel
theorem dX8_readOdds_13 : decode cX8_readOdds 13 = .ok (.aload_n 0, 1) := by decide +kernel
theorem dX8_readOdds_14 : decode cX8_readOdds 14 = .ok (.iconst 1, 1) := by decide +kernel
theorem dX8_readOdds_15 : decode cX8_readOdds 15 = .ok (.iload_n 1, 1) := by decide +kernel
theorem dX8_readOdds_16 : decode cX8_readOdds 16 = .ok (.ishl, 1) := by decide +kernel
theorem dX8_readOdds_17 : decode cX8_readOdds 17 = .ok (.aload_n 0, 1) := by decide +kernel
theorem dX8_readOdds_18 : decode cX8_readOdds 18 = .ok (.getfield 28, 3) := by decide +kernel
theorem dX8_readOdds_21 : decode cX8_readOdds 21 = .ok (.invokevirtual 66, 3) := by decide +kernel
theorem dX8_readOdds_24 : decode cX8_readOdds 24 = .ok (.aload_n 0, 1) := by decide +kernel
theorem dX8_readOdds_25 : decode cX8_readOdds 25 = .ok (.iconst 0, 1) := by decide +kernel
theorem dX8_readOdds_26 : decode cX8_readOdds 26 = .ok (.bipush 100, 2) := by decide +kernel
theorem dX8_readOdds_28 : decode cX8_readOdds 28 = .ok (.invokevirtual 79, 3) := by decide +kernel
theorem dX8_readOdds_31 : decode cX8_readOdds 31 = .ok (.istore_n 2, 1) := by decide +kernel
theorem dX8_readOdds_32 : decode cX8_readOdds 32 = .ok (.aload_n 0, 1) := by decide +kernel
theorem dX8_readOdds_33 : decode cX8_readOdds 33 = .ok (.iconst 0, 1) := by decide +kernel
theorem dX8_readOdds_34 : decode cX8_readOdds 34 = .ok (.bipush 100, 2) := by decide +kernel
theorem dX8_readOdds_36 : decode cX8_readOdds 36 = .ok (.invokevirtual 79, 3) := by decide +kernel
theorem dX8_readOdds_39 : decode cX8_readOdds 39 = .ok (.istore_n 3, 1) := by decide +kernel
theorem dX8_readOdds_40 : decode cX8_readOdds 40 = .ok (.aload_n 0, 1) := by decide +kernel
theorem dX8_readOdds_41 : decode cX8_readOdds 41 = .ok (.iconst 0, 1) := by decide +kernel
theorem dX8_readOdds_42 : decode cX8_readOdds 42 = .ok (.bipush 100, 2) := by decide +kernel
theorem dX8_readOdds_44 : decode cX8_readOdds 44 = .ok (.invokevirtual 79, 3) := by decide +kernel
theorem dX8_readOdds_47 : decode cX8_readOdds 47 = .ok (.istore 4, 2) := by decide +kernel
theorem dX8_readOdds_49 : decode cX8_readOdds 49 = .ok (.iload_n 2, 1) := by decide +kernel
theorem dX8_readOdds_50 : decode cX8_readOdds 50 = .ok (.iload_n 3, 1) := by decide +kernel
theorem dX8_readOdds_51 : decode cX8_readOdds 51 = .ok (.iadd, 1) := by decide +kernel
theorem dX8_readOdds_52 : decode cX8_readOdds 52 = .ok (.iload 4, 2) := by decide +kernel
theorem dX8_readOdds_54 : decode cX8_readOdds 54 = .ok (.iadd, 1) := by decide +kernel
theorem dX8_readOdds_55 : decode cX8_readOdds 55 = .ok (.bipush 100, 2) := by decide +kernel
theorem dX8_readOdds_57 : decode cX8_readOdds 57 = .ok (.if_icmp .eq 12, 3) := by decide +kernel
theorem dX8_readOdds_60 : decode cX8_readOdds 60 = .ok (.aload_n 0, 1) := by decide +kernel
theorem dX8_readOdds_61 : decode cX8_readOdds 61 = .ok (.iconst 5, 1) := by decide +kernel
theorem dX8_readOdds_62 : decode cX8_readOdds 62 = .ok (.aload_n 0, 1) := by decide +kernel
theorem dX8_readOdds_63 : decode cX8_readOdds 63 = .ok (.getfield 28, 3) := by decide +kernel
theorem dX8_readOdds_66 : decode cX8_readOdds 66 = .ok (.invokevirtual 94, 3) := by decide +kernel
theorem dX8_readOdds_69 : decode cX8_readOdds 69 = .ok (.aload_n 0, 1) := by decide +kernel
theorem dX8_readOdds_70 : decode cX8_readOdds 70 = .ok (.invokevirtual 83, 3) := by decide +kernel
theorem dX8_readOdds_73 : decode cX8_readOdds 73 = .ok (.aload_n 0, 1) := by decide +kernel
theorem dX8_readOdds_74 : decode cX8_readOdds 74 = .ok (.getfield 37, 3) := by decide +kernel
theorem dX8_readOdds_77 : decode cX8_readOdds 77 = .ok (.iload_n 1, 1) := by decide +kernel
theorem dX8_readOdds_78 : decode cX8_readOdds 78 = .ok (.iload_n 2, 1) := by decide +kernel
theorem dX8_readOdds_79 : decode cX8_readOdds 79 = .ok (.iload_n 3, 1) := by decide +kernel
theorem dX8_readOdds_80 : decode cX8_readOdds 80 = .ok (.iload 4, 2) := by decide +kernel
theorem dX8_readOdds_82 : decode cX8_readOdds 82 = .ok (.invokevirtual 108, 3) := by decide +kernel
theorem dX8_readOdds_85 : decode cX8_readOdds 85 = .ok (.return_, 1) := by decide +kernel
set_option maxRecDepth 20000 in
theorem ggX8_readWeights_X8_needWord : GoodIn wsX8_readWeights wsX8_needWord := goodIn_r _ [6, 7, 8, 9, 10, 5, 11, 12, 13, 14, 15, 16, 17, 18, 19, 20, 21, 22, 23, 24, 25, 26, 27, 28, 29, 30, 31, 32, 33, 34, 35, 36, 37, 38, 39, 40, 41, 42, 43, 44, 45, 46, 47, 48, 49, 50, 51, 52, 53, 54, 55, 56, 57, 58, 59, 60, 61, 62, 63, 64, 65, 66, 67, 68, 69, 70, 71, 72, 73, 74, 75, 76, 99, 100, 101, 102, 103, 104, 105, 106] (by decide +kernel) (by decide +kernel)
set_option maxRecDepth 20000 in
theorem gX8_readWeights_X8_needWord : GoodIn wsX8_readWeights (wsV RX8 75 RX8 yX8_needWord wsX8_needWord) := goodIn_app (goodIn_of _ (by decide +kernel)) ggX8_readWeights_X8_needWord
set_option maxRecDepth 20000 in
theorem ggX8_readWeights_X8_needNumber : GoodIn wsX8_readWeights wsX8_needNumber := goodIn_r _ [80, 7, 81, 12, 8, 9, 10, 5, 11, 13, 14, 15, 16, 17, 82, 83, 84, 85, 86, 87, 88, 71, 72, 73, 74, 75, 76, 99, 100, 101, 102, 103, 104, 105, 106] (by decide +kernel) (by decide +kernel)
set_option maxRecDepth 20000 in
theorem gX8_readWeights_X8_needNumber : GoodIn wsX8_readWeights (wsV RX8 79 RX8 yX8_needNumber wsX8_needNumber) := goodIn_app (goodIn_of _ (by decide +kernel)) ggX8_readWeights_X8_needNumber
set_option maxRecDepth 20000 in
theorem ggX8_readWeights_X8_needEnd : GoodIn wsX8_readWeights wsX8_needEnd := goodIn_r _ [92, 7, 8, 9, 10, 5, 11, 12, 13, 14, 15, 16, 17, 71, 72, 73, 74, 75, 76, 99, 100, 101, 102, 103, 104, 105, 106] (by decide +kernel) (by decide +kernel)
set_option maxRecDepth 20000 in
theorem gX8_readWeights_X8_needEnd : GoodIn wsX8_readWeights (wsV RX8 83 RX8 yX8_needEnd wsX8_needEnd) := goodIn_app (goodIn_of _ (by decide +kernel)) ggX8_readWeights_X8_needEnd
set_option maxRecDepth 20000 in
theorem ggX8_readWeights_X3_tellWeights : GoodIn wsX8_readWeights wsX3_tellWeights := goodIn_r _ [97, 98, 107, 108, 109, 110, 111, 112, 113] (by decide +kernel) (by decide +kernel)
set_option maxRecDepth 20000 in
theorem gX8_readWeights_X3_tellWeights : GoodIn wsX8_readWeights (wsV RX8 112 RX3 yX3_tellWeights wsX3_tellWeights) := goodIn_app (goodIn_of _ (by decide +kernel)) ggX8_readWeights_X3_tellWeights
theorem dX8_readWeights_0 : decode cX8_readWeights 0 = .ok (.aload_n 0, 1) := by decide +kernel
theorem dX8_readWeights_1 : decode cX8_readWeights 1 = .ok (.ldc 64, 2) := by decide +kernel
theorem dX8_readWeights_3 : decode cX8_readWeights 3 = .ok (.invokevirtual 75, 3) := by decide +kernel
theorem dX8_readWeights_6 : decode cX8_readWeights 6 = .ok (.aload_n 0, 1) := by decide +kernel
theorem dX8_readWeights_7 : decode cX8_readWeights 7 = .ok (.iconst 0, 1) := by decide +kernel
theorem dX8_readWeights_8 : decode cX8_readWeights 8 = .ok (.bipush 9, 2) := by decide +kernel
theorem dX8_readWeights_10 : decode cX8_readWeights 10 = .ok (.invokevirtual 79, 3) := by decide +kernel
theorem dX8_readWeights_13 : decode cX8_readWeights 13 = .ok (.istore_n 1, 1) := by decide +kernel
theorem dX8_readWeights_14 : decode cX8_readWeights 14 = .ok (.aload_n 0, 1) := by decide +kernel
theorem dX8_readWeights_15 : decode cX8_readWeights 15 = .ok (.iconst 0, 1) := by decide +kernel
theorem dX8_readWeights_16 : decode cX8_readWeights 16 = .ok (.bipush 9, 2) := by decide +kernel
theorem dX8_readWeights_18 : decode cX8_readWeights 18 = .ok (.invokevirtual 79, 3) := by decide +kernel
theorem dX8_readWeights_21 : decode cX8_readWeights 21 = .ok (.istore_n 2, 1) := by decide +kernel
theorem dX8_readWeights_22 : decode cX8_readWeights 22 = .ok (.aload_n 0, 1) := by decide +kernel
theorem dX8_readWeights_23 : decode cX8_readWeights 23 = .ok (.iconst 0, 1) := by decide +kernel
theorem dX8_readWeights_24 : decode cX8_readWeights 24 = .ok (.bipush 9, 2) := by decide +kernel
theorem dX8_readWeights_26 : decode cX8_readWeights 26 = .ok (.invokevirtual 79, 3) := by decide +kernel
theorem dX8_readWeights_29 : decode cX8_readWeights 29 = .ok (.istore_n 3, 1) := by decide +kernel
theorem dX8_readWeights_30 : decode cX8_readWeights 30 = .ok (.aload_n 0, 1) := by decide +kernel
theorem dX8_readWeights_31 : decode cX8_readWeights 31 = .ok (.invokevirtual 83, 3) := by decide +kernel
theorem dX8_readWeights_34 : decode cX8_readWeights 34 = .ok (.aload_n 0, 1) := by decide +kernel
theorem dX8_readWeights_35 : decode cX8_readWeights 35 = .ok (.getfield 37, 3) := by decide +kernel
theorem dX8_readWeights_38 : decode cX8_readWeights 38 = .ok (.iload_n 1, 1) := by decide +kernel
theorem dX8_readWeights_39 : decode cX8_readWeights 39 = .ok (.iload_n 2, 1) := by decide +kernel
theorem dX8_readWeights_40 : decode cX8_readWeights 40 = .ok (.iload_n 3, 1) := by decide +kernel
theorem dX8_readWeights_41 : decode cX8_readWeights 41 = .ok (.invokevirtual 112, 3) := by decide +kernel
theorem dX8_readWeights_44 : decode cX8_readWeights 44 = .ok (.return_, 1) := by decide +kernel
set_option maxRecDepth 20000 in
theorem ggX8_tellOnce_X8_fail : GoodIn wsX8_tellOnce wsX8_fail := goodIn_r _ [6, 7, 8, 9, 10, 11, 12, 13, 14, 15, 16] (by decide +kernel) (by decide +kernel)
set_option maxRecDepth 20000 in
theorem gX8_tellOnce_X8_fail : GoodIn wsX8_tellOnce (wsV RX8 94 RX8 yX8_fail wsX8_fail) := goodIn_app (goodIn_of _ (by decide +kernel)) ggX8_tellOnce_X8_fail
theorem dX8_tellOnce_0 : decode cX8_tellOnce 0 = .ok (.aload_n 0, 1) := by decide +kernel
theorem dX8_tellOnce_1 : decode cX8_tellOnce 1 = .ok (.getfield 31, 3) := by decide +kernel
theorem dX8_tellOnce_4 : decode cX8_tellOnce 4 = .ok (.iload_n 1, 1) := by decide +kernel
theorem dX8_tellOnce_5 : decode cX8_tellOnce 5 = .ok (.iand, 1) := by decide +kernel
theorem dX8_tellOnce_6 : decode cX8_tellOnce 6 = .ok (.ifCond .eq 9, 3) := by decide +kernel
theorem dX8_tellOnce_9 : decode cX8_tellOnce 9 = .ok (.aload_n 0, 1) := by decide +kernel
theorem dX8_tellOnce_10 : decode cX8_tellOnce 10 = .ok (.iconst 3, 1) := by decide +kernel
theorem dX8_tellOnce_11 : decode cX8_tellOnce 11 = .ok (.iload_n 2, 1) := by decide +kernel
theorem dX8_tellOnce_12 : decode cX8_tellOnce 12 = .ok (.invokevirtual 94, 3) := by decide +kernel
theorem dX8_tellOnce_15 : decode cX8_tellOnce 15 = .ok (.aload_n 0, 1) := by decide +kernel
theorem dX8_tellOnce_16 : decode cX8_tellOnce 16 = .ok (.dup, 1) := by decide +kernel
theorem dX8_tellOnce_17 : decode cX8_tellOnce 17 = .ok (.getfield 31, 3) := by decide +kernel
theorem dX8_tellOnce_20 : decode cX8_tellOnce 20 = .ok (.iload_n 1, 1) := by decide +kernel
theorem dX8_tellOnce_21 : decode cX8_tellOnce 21 = .ok (.ior, 1) := by decide +kernel
theorem dX8_tellOnce_22 : decode cX8_tellOnce 22 = .ok (.putfield 31, 3) := by decide +kernel
theorem dX8_tellOnce_25 : decode cX8_tellOnce 25 = .ok (.return_, 1) := by decide +kernel
theorem dX8_fail_0 : decode cX8_fail 0 = .ok (.aload_n 0, 1) := by decide +kernel
theorem dX8_fail_1 : decode cX8_fail 1 = .ok (.getfield 22, 3) := by decide +kernel
theorem dX8_fail_4 : decode cX8_fail 4 = .ok (.ifCond .eq 4, 3) := by decide +kernel
theorem dX8_fail_7 : decode cX8_fail 7 = .ok (.return_, 1) := by decide +kernel
theorem dX8_fail_8 : decode cX8_fail 8 = .ok (.aload_n 0, 1) := by decide +kernel
theorem dX8_fail_9 : decode cX8_fail 9 = .ok (.iload_n 1, 1) := by decide +kernel
theorem dX8_fail_10 : decode cX8_fail 10 = .ok (.putfield 22, 3) := by decide +kernel
theorem dX8_fail_13 : decode cX8_fail 13 = .ok (.aload_n 0, 1) := by decide +kernel
theorem dX8_fail_14 : decode cX8_fail 14 = .ok (.iload_n 2, 1) := by decide +kernel
theorem dX8_fail_15 : decode cX8_fail 15 = .ok (.putfield 19, 3) := by decide +kernel
theorem dX8_fail_18 : decode cX8_fail 18 = .ok (.return_, 1) := by decide +kernel
set_option maxRecDepth 20000 in
theorem ggX8_skipBlanks_X8_byteAt : GoodIn wsX8_skipBlanks wsX8_byteAt := goodIn_r _ [7, 2, 8, 9, 10, 11, 12, 13, 14, 15, 16] (by decide +kernel) (by decide +kernel)
set_option maxRecDepth 20000 in
theorem gX8_skipBlanks_X8_byteAt : GoodIn wsX8_skipBlanks (wsV RX8 115 RX8 yX8_byteAt wsX8_byteAt) := goodIn_app (goodIn_of _ (by decide +kernel)) ggX8_skipBlanks_X8_byteAt
theorem dX8_skipBlanks_0 : decode cX8_skipBlanks 0 = .ok (.aload_n 0, 1) := by decide +kernel
theorem dX8_skipBlanks_1 : decode cX8_skipBlanks 1 = .ok (.getfield 25, 3) := by decide +kernel
theorem dX8_skipBlanks_4 : decode cX8_skipBlanks 4 = .ok (.aload_n 0, 1) := by decide +kernel
theorem dX8_skipBlanks_5 : decode cX8_skipBlanks 5 = .ok (.getfield 15, 3) := by decide +kernel
theorem dX8_skipBlanks_8 : decode cX8_skipBlanks 8 = .ok (.if_icmp .ge 29, 3) := by decide +kernel
theorem dX8_skipBlanks_11 : decode cX8_skipBlanks 11 = .ok (.aload_n 0, 1) := by decide +kernel
theorem dX8_skipBlanks_12 : decode cX8_skipBlanks 12 = .ok (.aload_n 0, 1) := by decide +kernel
theorem dX8_skipBlanks_13 : decode cX8_skipBlanks 13 = .ok (.getfield 25, 3) := by decide +kernel
theorem dX8_skipBlanks_16 : decode cX8_skipBlanks 16 = .ok (.invokevirtual 115, 3) := by decide +kernel
theorem dX8_skipBlanks_19 : decode cX8_skipBlanks 19 = .ok (.bipush 32, 2) := by decide +kernel
theorem dX8_skipBlanks_21 : decode cX8_skipBlanks 21 = .ok (.if_icmp .ne 16, 3) := by decide +kernel
theorem dX8_skipBlanks_24 : decode cX8_skipBlanks 24 = .ok (.aload_n 0, 1) := by decide +kernel
theorem dX8_skipBlanks_25 : decode cX8_skipBlanks 25 = .ok (.dup, 1) := by decide +kernel
theorem dX8_skipBlanks_26 : decode cX8_skipBlanks 26 = .ok (.getfield 25, 3) := by decide +kernel
theorem dX8_skipBlanks_29 : decode cX8_skipBlanks 29 = .ok (.iconst 1, 1) := by decide +kernel
theorem dX8_skipBlanks_30 : decode cX8_skipBlanks 30 = .ok (.iadd, 1) := by decide +kernel
theorem dX8_skipBlanks_31 : decode cX8_skipBlanks 31 = .ok (.putfield 25, 3) := by decide +kernel
theorem dX8_skipBlanks_34 : decode cX8_skipBlanks 34 = .ok (.goto (-34), 3) := by decide +kernel
theorem dX8_skipBlanks_37 : decode cX8_skipBlanks 37 = .ok (.return_, 1) := by decide +kernel
theorem dX8_byteAt_0 : decode cX8_byteAt 0 = .ok (.iload_n 1, 1) := by decide +kernel
theorem dX8_byteAt_1 : decode cX8_byteAt 1 = .ok (.ifCond .lt 31, 3) := by decide +kernel
theorem dX8_byteAt_4 : decode cX8_byteAt 4 = .ok (.iload_n 1, 1) := by decide +kernel
theorem dX8_byteAt_5 : decode cX8_byteAt 5 = .ok (.aload_n 0, 1) := by decide +kernel
theorem dX8_byteAt_6 : decode cX8_byteAt 6 = .ok (.getfield 15, 3) := by decide +kernel
theorem dX8_byteAt_9 : decode cX8_byteAt 9 = .ok (.if_icmp .ge 23, 3) := by decide +kernel
theorem dX8_byteAt_12 : decode cX8_byteAt 12 = .ok (.iload_n 1, 1) := by decide +kernel
theorem dX8_byteAt_13 : decode cX8_byteAt 13 = .ok (.sipush 240, 3) := by decide +kernel
theorem dX8_byteAt_16 : decode cX8_byteAt 16 = .ok (.if_icmp .ge 16, 3) := by decide +kernel
theorem dX8_byteAt_19 : decode cX8_byteAt 19 = .ok (.aload_n 0, 1) := by decide +kernel
theorem dX8_byteAt_20 : decode cX8_byteAt 20 = .ok (.getfield 9, 3) := by decide +kernel
theorem dX8_byteAt_23 : decode cX8_byteAt 23 = .ok (.iload_n 1, 1) := by decide +kernel
theorem dX8_byteAt_24 : decode cX8_byteAt 24 = .ok (.baload, 1) := by decide +kernel
theorem dX8_byteAt_25 : decode cX8_byteAt 25 = .ok (.sipush 255, 3) := by decide +kernel
theorem dX8_byteAt_28 : decode cX8_byteAt 28 = .ok (.iand, 1) := by decide +kernel
theorem dX8_byteAt_29 : decode cX8_byteAt 29 = .ok (.goto 4, 3) := by decide +kernel
theorem dX8_byteAt_32 : decode cX8_byteAt 32 = .ok (.iconst (-1), 1) := by decide +kernel
theorem dX8_byteAt_33 : decode cX8_byteAt 33 = .ok (.ireturn, 1) := by decide +kernel
set_option maxRecDepth 20000 in
theorem ggX8_isFigure_X8_byteAt : GoodIn wsX8_isFigure wsX8_byteAt := goodIn_r _ [5, 6, 7, 11, 12, 13, 14, 15, 16, 17, 18] (by decide +kernel) (by decide +kernel)
set_option maxRecDepth 20000 in
theorem gX8_isFigure_X8_byteAt : GoodIn wsX8_isFigure (wsV RX8 115 RX8 yX8_byteAt wsX8_byteAt) := goodIn_app (goodIn_of _ (by decide +kernel)) ggX8_isFigure_X8_byteAt
set_option maxRecDepth 20000 in
theorem ggX8_isFigure_X10_within : GoodIn wsX8_isFigure wsX10_within := goodIn_r _ [10] (by decide +kernel) (by decide +kernel)
set_option maxRecDepth 20000 in
theorem gX8_isFigure_X10_within_n119 : GoodIn wsX8_isFigure (wsX10_within) := ggX8_isFigure_X10_within
theorem dX8_isFigure_0 : decode cX8_isFigure 0 = .ok (.aload_n 0, 1) := by decide +kernel
theorem dX8_isFigure_1 : decode cX8_isFigure 1 = .ok (.iload_n 1, 1) := by decide +kernel
theorem dX8_isFigure_2 : decode cX8_isFigure 2 = .ok (.invokevirtual 115, 3) := by decide +kernel
theorem dX8_isFigure_5 : decode cX8_isFigure 5 = .ok (.bipush 48, 2) := by decide +kernel
theorem dX8_isFigure_7 : decode cX8_isFigure 7 = .ok (.bipush 57, 2) := by decide +kernel
theorem dX8_isFigure_9 : decode cX8_isFigure 9 = .ok (.invokestatic 119, 3) := by decide +kernel
theorem dX8_isFigure_12 : decode cX8_isFigure 12 = .ok (.ireturn, 1) := by decide +kernel
set_option maxRecDepth 20000 in
theorem ggX8_isHere_J0_length_8abf5 : GoodIn wsX8_isHere wsJ0_length_8abf5 := goodIn_r _ [6, 7, 8, 9, 10, 5, 11, 12, 13] (by decide +kernel) (by decide +kernel)
set_option maxRecDepth 20000 in
theorem gX8_isHere_J0_length_8abf5 : GoodIn wsX8_isHere (wsV RX8 123 RJ0 yJ0_length_8abf5 wsJ0_length_8abf5) := goodIn_app (goodIn_of _ (by decide +kernel)) ggX8_isHere_J0_length_8abf5
set_option maxRecDepth 20000 in
theorem ggX8_isHere_X8_byteAt : GoodIn wsX8_isHere wsX8_byteAt := goodIn_r _ [18, 19, 20, 58, 59, 60, 61, 62, 63, 64, 65] (by decide +kernel) (by decide +kernel)
set_option maxRecDepth 20000 in
theorem gX8_isHere_X8_byteAt : GoodIn wsX8_isHere (wsV RX8 115 RX8 yX8_byteAt wsX8_byteAt) := goodIn_app (goodIn_of _ (by decide +kernel)) ggX8_isHere_X8_byteAt
set_option maxRecDepth 20000 in
theorem ggX8_isHere_J0_charAt_5068e : GoodIn wsX8_isHere wsJ0_charAt_5068e := goodIn_r _ [24, 7, 25, 26, 27, 5, 28, 12, 13, 29, 30, 31, 32, 33, 34, 35, 36, 37, 38, 39, 40, 41, 42, 43, 44, 45, 46, 47, 48, 49, 50, 51, 52, 53, 54, 55, 56, 57] (by decide +kernel) (by decide +kernel)
set_option maxRecDepth 20000 in
theorem gX8_isHere_J0_charAt_5068e : GoodIn wsX8_isHere (wsV RX8 128 RJ0 yJ0_charAt_5068e wsJ0_charAt_5068e) := goodIn_app (goodIn_of _ (by decide +kernel)) ggX8_isHere_J0_charAt_5068e
theorem dX8_isHere_0 : decode cX8_isHere 0 = .ok (.iconst 0, 1) := by decide +kernel
theorem dX8_isHere_1 : decode cX8_isHere 1 = .ok (.istore_n 2, 1) := by decide +kernel
theorem dX8_isHere_2 : decode cX8_isHere 2 = .ok (.iload_n 2, 1) := by decide +kernel
theorem dX8_isHere_3 : decode cX8_isHere 3 = .ok (.aload_n 1, 1) := by decide +kernel
theorem dX8_isHere_4 : decode cX8_isHere 4 = .ok (.invokevirtual 123, 3) := by decide +kernel
theorem dX8_isHere_7 : decode cX8_isHere 7 = .ok (.if_icmp .ge 29, 3) := by decide +kernel
theorem dX8_isHere_10 : decode cX8_isHere 10 = .ok (.aload_n 0, 1) := by decide +kernel
theorem dX8_isHere_11 : decode cX8_isHere 11 = .ok (.aload_n 0, 1) := by decide +kernel
theorem dX8_isHere_12 : decode cX8_isHere 12 = .ok (.getfield 25, 3) := by decide +kernel
theorem dX8_isHere_15 : decode cX8_isHere 15 = .ok (.iload_n 2, 1) := by decide +kernel
theorem dX8_isHere_16 : decode cX8_isHere 16 = .ok (.iadd, 1) := by decide +kernel
theorem dX8_isHere_17 : decode cX8_isHere 17 = .ok (.invokevirtual 115, 3) := by decide +kernel
theorem dX8_isHere_20 : decode cX8_isHere 20 = .ok (.aload_n 1, 1) := by decide +kernel
theorem dX8_isHere_21 : decode cX8_isHere 21 = .ok (.iload_n 2, 1) := by decide +kernel
theorem dX8_isHere_22 : decode cX8_isHere 22 = .ok (.invokevirtual 128, 3) := by decide +kernel
theorem dX8_isHere_25 : decode cX8_isHere 25 = .ok (.if_icmp .eq 5, 3) := by decide +kernel
theorem dX8_isHere_28 : decode cX8_isHere 28 = .ok (.iconst 0, 1) := by decide +kernel
theorem dX8_isHere_29 : decode cX8_isHere 29 = .ok (.ireturn, 1) := by decide +kernel
theorem dX8_isHere_30 : decode cX8_isHere 30 = .ok (.iinc 2 1, 3) := by decide +kernel
theorem dX8_isHere_33 : decode cX8_isHere 33 = .ok (.goto (-31), 3) := by decide +kernel
theorem dX8_isHere_36 : decode cX8_isHere 36 = .ok (.aload_n 0, 1) := by decide +kernel
theorem dX8_isHere_37 : decode cX8_isHere 37 = .ok (.aload_n 0, 1) := by decide +kernel
theorem dX8_isHere_38 : decode cX8_isHere 38 = .ok (.getfield 25, 3) := by decide +kernel
theorem dX8_isHere_41 : decode cX8_isHere 41 = .ok (.aload_n 1, 1) := by decide +kernel
theorem dX8_isHere_42 : decode cX8_isHere 42 = .ok (.invokevirtual 123, 3) := by decide +kernel
theorem dX8_isHere_45 : decode cX8_isHere 45 = .ok (.iadd, 1) := by decide +kernel
theorem dX8_isHere_46 : decode cX8_isHere 46 = .ok (.invokevirtual 115, 3) := by decide +kernel
theorem dX8_isHere_49 : decode cX8_isHere 49 = .ok (.istore_n 2, 1) := by decide +kernel
theorem dX8_isHere_50 : decode cX8_isHere 50 = .ok (.iload_n 2, 1) := by decide +kernel
theorem dX8_isHere_51 : decode cX8_isHere 51 = .ok (.bipush 97, 2) := by decide +kernel
theorem dX8_isHere_53 : decode cX8_isHere 53 = .ok (.if_icmp .lt 9, 3) := by decide +kernel
theorem dX8_isHere_56 : decode cX8_isHere 56 = .ok (.iload_n 2, 1) := by decide +kernel
theorem dX8_isHere_57 : decode cX8_isHere 57 = .ok (.bipush 122, 2) := by decide +kernel
theorem dX8_isHere_59 : decode cX8_isHere 59 = .ok (.if_icmp .le 7, 3) := by decide +kernel
theorem dX8_isHere_62 : decode cX8_isHere 62 = .ok (.iconst 1, 1) := by decide +kernel
theorem dX8_isHere_63 : decode cX8_isHere 63 = .ok (.goto 4, 3) := by decide +kernel
theorem dX8_isHere_66 : decode cX8_isHere 66 = .ok (.iconst 0, 1) := by decide +kernel
theorem dX8_isHere_67 : decode cX8_isHere 67 = .ok (.ireturn, 1) := by decide +kernel
set_option maxRecDepth 20000 in
theorem ggX8_needWord_X8_skipBlanks : GoodIn wsX8_needWord wsX8_skipBlanks := goodIn_r _ [6, 1, 7, 8, 9, 10, 5, 11, 12, 72, 73, 74, 75, 76, 77, 78, 79] (by decide +kernel) (by decide +kernel)
set_option maxRecDepth 20000 in
theorem gX8_needWord_X8_skipBlanks : GoodIn wsX8_needWord (wsV RX8 44 RX8 yX8_skipBlanks wsX8_skipBlanks) := goodIn_app (goodIn_of _ (by decide +kernel)) ggX8_needWord_X8_skipBlanks
set_option maxRecDepth 20000 in
theorem ggX8_needWord_X8_isHere : GoodIn wsX8_needWord wsX8_isHere := goodIn_r _ [16, 1, 17, 18, 19, 20, 21, 22, 23, 24, 25, 26, 27, 28, 8, 9, 10, 5, 11, 7, 12, 29, 30, 31, 32, 33, 34, 35, 36, 37, 38, 39, 40, 41, 42, 43, 44, 45, 46, 47, 48, 49, 50, 51, 52, 53, 54, 55, 56, 57, 58, 59, 60, 61, 62, 63, 64, 65, 72, 73, 74, 75, 76, 77, 78, 79] (by decide +kernel) (by decide +kernel)
set_option maxRecDepth 20000 in
theorem gX8_needWord_X8_isHere : GoodIn wsX8_needWord (wsV RX8 52 RX8 yX8_isHere wsX8_isHere) := goodIn_app (goodIn_of _ (by decide +kernel)) ggX8_needWord_X8_isHere
set_option maxRecDepth 20000 in
theorem ggX8_needWord_J0_length_8abf5 : GoodIn wsX8_needWord wsJ0_length_8abf5 := goodIn_r _ [21, 22, 23, 24, 25, 20, 26, 27, 28] (by decide +kernel) (by decide +kernel)
set_option maxRecDepth 20000 in
theorem gX8_needWord_J0_length_8abf5 : GoodIn wsX8_needWord (wsV RX8 123 RJ0 yJ0_length_8abf5 wsJ0_length_8abf5) := goodIn_app (goodIn_of _ (by decide +kernel)) ggX8_needWord_J0_length_8abf5
