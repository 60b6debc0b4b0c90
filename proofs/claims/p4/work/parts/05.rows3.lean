set_option maxRecDepth 100000 in
theorem gX8_readWeights_X3_tellWeights : GoodIn wsX8_readWeights (wsV RX8 112 RX3 yX3_tellWeights wsX3_tellWeights) := goodIn_app (goodIn_sub (sub_c (nq_m (n := 93) rfl) (sub_c (nq_m (n := 94) rfl) (sub_c (nq_m (n := 95) rfl) (sub_c (nq_m (n := 96) rfl) sub_n)))) (by decide +kernel)) ggX8_readWeights_X3_tellWeights
noncomputable def dX8_readWeights_0_l : List (Nat × Instr × Nat) := [(0, .aload_n 0, 1), (1, .ldc 64, 2), (3, .invokevirtual 75, 3), (6, .aload_n 0, 1), (7, .iconst 0, 1), (8, .bipush 9, 2), (10, .invokevirtual 79, 3), (13, .istore_n 1, 1), (14, .aload_n 0, 1), (15, .iconst 0, 1), (16, .bipush 9, 2), (18, .invokevirtual 79, 3), (21, .istore_n 2, 1), (22, .aload_n 0, 1), (23, .iconst 0, 1), (24, .bipush 9, 2), (26, .invokevirtual 79, 3), (29, .istore_n 3, 1), (30, .aload_n 0, 1), (31, .invokevirtual 83, 3), (34, .aload_n 0, 1), (35, .getfield 37, 3), (38, .iload_n 1, 1), (39, .iload_n 2, 1), (40, .iload_n 3, 1), (41, .invokevirtual 112, 3), (44, .return_, 1)]
set_option maxRecDepth 100000 in
theorem dX8_readWeights_0_g : dX8_readWeights_0_l.all (fun x => decide (decode cX8_readWeights x.1 = .ok x.2)) = true := by decide +kernel
theorem dX8_readWeights_0 : decode cX8_readWeights 0 = .ok (.aload_n 0, 1) := nq_d dX8_readWeights_0_g (n := 0) rfl
theorem dX8_readWeights_1 : decode cX8_readWeights 1 = .ok (.ldc 64, 2) := nq_d dX8_readWeights_0_g (n := 1) rfl
theorem dX8_readWeights_3 : decode cX8_readWeights 3 = .ok (.invokevirtual 75, 3) := nq_d dX8_readWeights_0_g (n := 2) rfl
theorem dX8_readWeights_6 : decode cX8_readWeights 6 = .ok (.aload_n 0, 1) := nq_d dX8_readWeights_0_g (n := 3) rfl
theorem dX8_readWeights_7 : decode cX8_readWeights 7 = .ok (.iconst 0, 1) := nq_d dX8_readWeights_0_g (n := 4) rfl
theorem dX8_readWeights_8 : decode cX8_readWeights 8 = .ok (.bipush 9, 2) := nq_d dX8_readWeights_0_g (n := 5) rfl
theorem dX8_readWeights_10 : decode cX8_readWeights 10 = .ok (.invokevirtual 79, 3) := nq_d dX8_readWeights_0_g (n := 6) rfl
theorem dX8_readWeights_13 : decode cX8_readWeights 13 = .ok (.istore_n 1, 1) := nq_d dX8_readWeights_0_g (n := 7) rfl
theorem dX8_readWeights_14 : decode cX8_readWeights 14 = .ok (.aload_n 0, 1) := nq_d dX8_readWeights_0_g (n := 8) rfl
theorem dX8_readWeights_15 : decode cX8_readWeights 15 = .ok (.iconst 0, 1) := nq_d dX8_readWeights_0_g (n := 9) rfl
theorem dX8_readWeights_16 : decode cX8_readWeights 16 = .ok (.bipush 9, 2) := nq_d dX8_readWeights_0_g (n := 10) rfl
theorem dX8_readWeights_18 : decode cX8_readWeights 18 = .ok (.invokevirtual 79, 3) := nq_d dX8_readWeights_0_g (n := 11) rfl
theorem dX8_readWeights_21 : decode cX8_readWeights 21 = .ok (.istore_n 2, 1) := nq_d dX8_readWeights_0_g (n := 12) rfl
theorem dX8_readWeights_22 : decode cX8_readWeights 22 = .ok (.aload_n 0, 1) := nq_d dX8_readWeights_0_g (n := 13) rfl
theorem dX8_readWeights_23 : decode cX8_readWeights 23 = .ok (.iconst 0, 1) := nq_d dX8_readWeights_0_g (n := 14) rfl
theorem dX8_readWeights_24 : decode cX8_readWeights 24 = .ok (.bipush 9, 2) := nq_d dX8_readWeights_0_g (n := 15) rfl
theorem dX8_readWeights_26 : decode cX8_readWeights 26 = .ok (.invokevirtual 79, 3) := nq_d dX8_readWeights_0_g (n := 16) rfl
theorem dX8_readWeights_29 : decode cX8_readWeights 29 = .ok (.istore_n 3, 1) := nq_d dX8_readWeights_0_g (n := 17) rfl
theorem dX8_readWeights_30 : decode cX8_readWeights 30 = .ok (.aload_n 0, 1) := nq_d dX8_readWeights_0_g (n := 18) rfl
theorem dX8_readWeights_31 : decode cX8_readWeights 31 = .ok (.invokevirtual 83, 3) := nq_d dX8_readWeights_0_g (n := 19) rfl
theorem dX8_readWeights_34 : decode cX8_readWeights 34 = .ok (.aload_n 0, 1) := nq_d dX8_readWeights_0_g (n := 20) rfl
theorem dX8_readWeights_35 : decode cX8_readWeights 35 = .ok (.getfield 37, 3) := nq_d dX8_readWeights_0_g (n := 21) rfl
theorem dX8_readWeights_38 : decode cX8_readWeights 38 = .ok (.iload_n 1, 1) := nq_d dX8_readWeights_0_g (n := 22) rfl
theorem dX8_readWeights_39 : decode cX8_readWeights 39 = .ok (.iload_n 2, 1) := nq_d dX8_readWeights_0_g (n := 23) rfl
theorem dX8_readWeights_40 : decode cX8_readWeights 40 = .ok (.iload_n 3, 1) := nq_d dX8_readWeights_0_g (n := 24) rfl
theorem dX8_readWeights_41 : decode cX8_readWeights 41 = .ok (.invokevirtual 112, 3) := nq_d dX8_readWeights_0_g (n := 25) rfl
theorem dX8_readWeights_44 : decode cX8_readWeights 44 = .ok (.return_, 1) := nq_d dX8_readWeights_0_g (n := 26) rfl
set_option maxRecDepth 100000 in
theorem ggX8_tellOnce_X8_fail : GoodIn wsX8_tellOnce wsX8_fail := goodIn_sub (sub_c (nq_m (n := 6) rfl) (sub_c (nq_m (n := 7) rfl) (sub_c (nq_m (n := 8) rfl) (sub_c (nq_m (n := 9) rfl) (sub_c (nq_m (n := 10) rfl) (sub_c (nq_m (n := 11) rfl) (sub_c (nq_m (n := 12) rfl) (sub_c (nq_m (n := 13) rfl) (sub_c (nq_m (n := 14) rfl) (sub_c (nq_m (n := 15) rfl) (sub_c (nq_m (n := 16) rfl) sub_n))))))))))) (by decide +kernel)
set_option maxRecDepth 100000 in
theorem gX8_tellOnce_X8_fail : GoodIn wsX8_tellOnce (wsV RX8 94 RX8 yX8_fail wsX8_fail) := goodIn_app (goodIn_sub (sub_c (nq_m (n := 2) rfl) (sub_c (nq_m (n := 3) rfl) (sub_c (nq_m (n := 4) rfl) (sub_c (nq_m (n := 5) rfl) sub_n)))) (by decide +kernel)) ggX8_tellOnce_X8_fail
noncomputable def dX8_tellOnce_0_l : List (Nat × Instr × Nat) := [(0, .aload_n 0, 1), (1, .getfield 31, 3), (4, .iload_n 1, 1), (5, .iand, 1), (6, .ifCond .eq 9, 3), (9, .aload_n 0, 1), (10, .iconst 3, 1), (11, .iload_n 2, 1), (12, .invokevirtual 94, 3), (15, .aload_n 0, 1), (16, .dup, 1), (17, .getfield 31, 3), (20, .iload_n 1, 1), (21, .ior, 1), (22, .putfield 31, 3), (25, .return_, 1)]
set_option maxRecDepth 100000 in
theorem dX8_tellOnce_0_g : dX8_tellOnce_0_l.all (fun x => decide (decode cX8_tellOnce x.1 = .ok x.2)) = true := by decide +kernel
theorem dX8_tellOnce_0 : decode cX8_tellOnce 0 = .ok (.aload_n 0, 1) := nq_d dX8_tellOnce_0_g (n := 0) rfl
theorem dX8_tellOnce_1 : decode cX8_tellOnce 1 = .ok (.getfield 31, 3) := nq_d dX8_tellOnce_0_g (n := 1) rfl
theorem dX8_tellOnce_4 : decode cX8_tellOnce 4 = .ok (.iload_n 1, 1) := nq_d dX8_tellOnce_0_g (n := 2) rfl
theorem dX8_tellOnce_5 : decode cX8_tellOnce 5 = .ok (.iand, 1) := nq_d dX8_tellOnce_0_g (n := 3) rfl
theorem dX8_tellOnce_6 : decode cX8_tellOnce 6 = .ok (.ifCond .eq 9, 3) := nq_d dX8_tellOnce_0_g (n := 4) rfl
theorem dX8_tellOnce_9 : decode cX8_tellOnce 9 = .ok (.aload_n 0, 1) := nq_d dX8_tellOnce_0_g (n := 5) rfl
theorem dX8_tellOnce_10 : decode cX8_tellOnce 10 = .ok (.iconst 3, 1) := nq_d dX8_tellOnce_0_g (n := 6) rfl
theorem dX8_tellOnce_11 : decode cX8_tellOnce 11 = .ok (.iload_n 2, 1) := nq_d dX8_tellOnce_0_g (n := 7) rfl
theorem dX8_tellOnce_12 : decode cX8_tellOnce 12 = .ok (.invokevirtual 94, 3) := nq_d dX8_tellOnce_0_g (n := 8) rfl
theorem dX8_tellOnce_15 : decode cX8_tellOnce 15 = .ok (.aload_n 0, 1) := nq_d dX8_tellOnce_0_g (n := 9) rfl
theorem dX8_tellOnce_16 : decode cX8_tellOnce 16 = .ok (.dup, 1) := nq_d dX8_tellOnce_0_g (n := 10) rfl
theorem dX8_tellOnce_17 : decode cX8_tellOnce 17 = .ok (.getfield 31, 3) := nq_d dX8_tellOnce_0_g (n := 11) rfl
theorem dX8_tellOnce_20 : decode cX8_tellOnce 20 = .ok (.iload_n 1, 1) := nq_d dX8_tellOnce_0_g (n := 12) rfl
theorem dX8_tellOnce_21 : decode cX8_tellOnce 21 = .ok (.ior, 1) := nq_d dX8_tellOnce_0_g (n := 13) rfl
theorem dX8_tellOnce_22 : decode cX8_tellOnce 22 = .ok (.putfield 31, 3) := nq_d dX8_tellOnce_0_g (n := 14) rfl
theorem dX8_tellOnce_25 : decode cX8_tellOnce 25 = .ok (.return_, 1) := nq_d dX8_tellOnce_0_g (n := 15) rfl
noncomputable def dX8_fail_0_l : List (Nat × Instr × Nat) := [(0, .aload_n 0, 1), (1, .getfield 22, 3), (4, .ifCond .eq 4, 3), (7, .return_, 1), (8, .aload_n 0, 1), (9, .iload_n 1, 1), (10, .putfield 22, 3), (13, .aload_n 0, 1), (14, .iload_n 2, 1), (15, .putfield 19, 3), (18, .return_, 1)]
set_option maxRecDepth 100000 in
theorem dX8_fail_0_g : dX8_fail_0_l.all (fun x => decide (decode cX8_fail x.1 = .ok x.2)) = true := by decide +kernel
theorem dX8_fail_0 : decode cX8_fail 0 = .ok (.aload_n 0, 1) := nq_d dX8_fail_0_g (n := 0) rfl
theorem dX8_fail_1 : decode cX8_fail 1 = .ok (.getfield 22, 3) := nq_d dX8_fail_0_g (n := 1) rfl
theorem dX8_fail_4 : decode cX8_fail 4 = .ok (.ifCond .eq 4, 3) := nq_d dX8_fail_0_g (n := 2) rfl
theorem dX8_fail_7 : decode cX8_fail 7 = .ok (.return_, 1) := nq_d dX8_fail_0_g (n := 3) rfl
theorem dX8_fail_8 : decode cX8_fail 8 = .ok (.aload_n 0, 1) := nq_d dX8_fail_0_g (n := 4) rfl
theorem dX8_fail_9 : decode cX8_fail 9 = .ok (.iload_n 1, 1) := nq_d dX8_fail_0_g (n := 5) rfl
theorem dX8_fail_10 : decode cX8_fail 10 = .ok (.putfield 22, 3) := nq_d dX8_fail_0_g (n := 6) rfl
theorem dX8_fail_13 : decode cX8_fail 13 = .ok (.aload_n 0, 1) := nq_d dX8_fail_0_g (n := 7) rfl
theorem dX8_fail_14 : decode cX8_fail 14 = .ok (.iload_n 2, 1) := nq_d dX8_fail_0_g (n := 8) rfl
theorem dX8_fail_15 : decode cX8_fail 15 = .ok (.putfield 19, 3) := nq_d dX8_fail_0_g (n := 9) rfl
theorem dX8_fail_18 : decode cX8_fail 18 = .ok (.return_, 1) := nq_d dX8_fail_0_g (n := 10) rfl
set_option maxRecDepth 100000 in
theorem ggX8_skipBlanks_X8_byteAt : GoodIn wsX8_skipBlanks wsX8_byteAt := goodIn_sub (sub_c (nq_m (n := 7) rfl) (sub_c (nq_m (n := 2) rfl) (sub_c (nq_m (n := 8) rfl) (sub_c (nq_m (n := 9) rfl) (sub_c (nq_m (n := 10) rfl) (sub_c (nq_m (n := 11) rfl) (sub_c (nq_m (n := 12) rfl) (sub_c (nq_m (n := 13) rfl) (sub_c (nq_m (n := 14) rfl) (sub_c (nq_m (n := 15) rfl) (sub_c (nq_m (n := 16) rfl) sub_n))))))))))) (by decide +kernel)
set_option maxRecDepth 100000 in
theorem gX8_skipBlanks_X8_byteAt : GoodIn wsX8_skipBlanks (wsV RX8 115 RX8 yX8_byteAt wsX8_byteAt) := goodIn_app (goodIn_sub (sub_c (nq_m (n := 3) rfl) (sub_c (nq_m (n := 4) rfl) (sub_c (nq_m (n := 5) rfl) (sub_c (nq_m (n := 6) rfl) sub_n)))) (by decide +kernel)) ggX8_skipBlanks_X8_byteAt
noncomputable def dX8_skipBlanks_0_l : List (Nat × Instr × Nat) := [(0, .aload_n 0, 1), (1, .getfield 25, 3), (4, .aload_n 0, 1), (5, .getfield 15, 3), (8, .if_icmp .ge 29, 3), (11, .aload_n 0, 1), (12, .aload_n 0, 1), (13, .getfield 25, 3), (16, .invokevirtual 115, 3), (19, .bipush 32, 2), (21, .if_icmp .ne 16, 3), (24, .aload_n 0, 1), (25, .dup, 1), (26, .getfield 25, 3), (29, .iconst 1, 1), (30, .iadd, 1), (31, .putfield 25, 3), (34, .goto (-34), 3), (37, .return_, 1)]
set_option maxRecDepth 100000 in
theorem dX8_skipBlanks_0_g : dX8_skipBlanks_0_l.all (fun x => decide (decode cX8_skipBlanks x.1 = .ok x.2)) = true := by decide +kernel
theorem dX8_skipBlanks_0 : decode cX8_skipBlanks 0 = .ok (.aload_n 0, 1) := nq_d dX8_skipBlanks_0_g (n := 0) rfl
theorem dX8_skipBlanks_1 : decode cX8_skipBlanks 1 = .ok (.getfield 25, 3) := nq_d dX8_skipBlanks_0_g (n := 1) rfl
theorem dX8_skipBlanks_4 : decode cX8_skipBlanks 4 = .ok (.aload_n 0, 1) := nq_d dX8_skipBlanks_0_g (n := 2) rfl
theorem dX8_skipBlanks_5 : decode cX8_skipBlanks 5 = .ok (.getfield 15, 3) := nq_d dX8_skipBlanks_0_g (n := 3) rfl
theorem dX8_skipBlanks_8 : decode cX8_skipBlanks 8 = .ok (.if_icmp .ge 29, 3) := nq_d dX8_skipBlanks_0_g (n := 4) rfl
theorem dX8_skipBlanks_11 : decode cX8_skipBlanks 11 = .ok (.aload_n 0, 1) := nq_d dX8_skipBlanks_0_g (n := 5) rfl
theorem dX8_skipBlanks_12 : decode cX8_skipBlanks 12 = .ok (.aload_n 0, 1) := nq_d dX8_skipBlanks_0_g (n := 6) rfl
theorem dX8_skipBlanks_13 : decode cX8_skipBlanks 13 = .ok (.getfield 25, 3) := nq_d dX8_skipBlanks_0_g (n := 7) rfl
theorem dX8_skipBlanks_16 : decode cX8_skipBlanks 16 = .ok (.invokevirtual 115, 3) := nq_d dX8_skipBlanks_0_g (n := 8) rfl
theorem dX8_skipBlanks_19 : decode cX8_skipBlanks 19 = .ok (.bipush 32, 2) := nq_d dX8_skipBlanks_0_g (n := 9) rfl
theorem dX8_skipBlanks_21 : decode cX8_skipBlanks 21 = .ok (.if_icmp .ne 16, 3) := nq_d dX8_skipBlanks_0_g (n := 10) rfl
theorem dX8_skipBlanks_24 : decode cX8_skipBlanks 24 = .ok (.aload_n 0, 1) := nq_d dX8_skipBlanks_0_g (n := 11) rfl
theorem dX8_skipBlanks_25 : decode cX8_skipBlanks 25 = .ok (.dup, 1) := nq_d dX8_skipBlanks_0_g (n := 12) rfl
theorem dX8_skipBlanks_26 : decode cX8_skipBlanks 26 = .ok (.getfield 25, 3) := nq_d dX8_skipBlanks_0_g (n := 13) rfl
theorem dX8_skipBlanks_29 : decode cX8_skipBlanks 29 = .ok (.iconst 1, 1) := nq_d dX8_skipBlanks_0_g (n := 14) rfl
theorem dX8_skipBlanks_30 : decode cX8_skipBlanks 30 = .ok (.iadd, 1) := nq_d dX8_skipBlanks_0_g (n := 15) rfl
theorem dX8_skipBlanks_31 : decode cX8_skipBlanks 31 = .ok (.putfield 25, 3) := nq_d dX8_skipBlanks_0_g (n := 16) rfl
theorem dX8_skipBlanks_34 : decode cX8_skipBlanks 34 = .ok (.goto (-34), 3) := nq_d dX8_skipBlanks_0_g (n := 17) rfl
theorem dX8_skipBlanks_37 : decode cX8_skipBlanks 37 = .ok (.return_, 1) := nq_d dX8_skipBlanks_0_g (n := 18) rfl
noncomputable def dX8_byteAt_0_l : List (Nat × Instr × Nat) := [(0, .iload_n 1, 1), (1, .ifCond .lt 31, 3), (4, .iload_n 1, 1), (5, .aload_n 0, 1), (6, .getfield 15, 3), (9, .if_icmp .ge 23, 3), (12, .iload_n 1, 1), (13, .sipush 240, 3), (16, .if_icmp .ge 16, 3), (19, .aload_n 0, 1), (20, .getfield 9, 3), (23, .iload_n 1, 1), (24, .baload, 1), (25, .sipush 255, 3), (28, .iand, 1), (29, .goto 4, 3), (32, .iconst (-1), 1), (33, .ireturn, 1)]
set_option maxRecDepth 100000 in
theorem dX8_byteAt_0_g : dX8_byteAt_0_l.all (fun x => decide (decode cX8_byteAt x.1 = .ok x.2)) = true := by decide +kernel
theorem dX8_byteAt_0 : decode cX8_byteAt 0 = .ok (.iload_n 1, 1) := nq_d dX8_byteAt_0_g (n := 0) rfl
theorem dX8_byteAt_1 : decode cX8_byteAt 1 = .ok (.ifCond .lt 31, 3) := nq_d dX8_byteAt_0_g (n := 1) rfl
theorem dX8_byteAt_4 : decode cX8_byteAt 4 = .ok (.iload_n 1, 1) := nq_d dX8_byteAt_0_g (n := 2) rfl
theorem dX8_byteAt_5 : decode cX8_byteAt 5 = .ok (.aload_n 0, 1) := nq_d dX8_byteAt_0_g (n := 3) rfl
theorem dX8_byteAt_6 : decode cX8_byteAt 6 = .ok (.getfield 15, 3) := nq_d dX8_byteAt_0_g (n := 4) rfl
theorem dX8_byteAt_9 : decode cX8_byteAt 9 = .ok (.if_icmp .ge 23, 3) := nq_d dX8_byteAt_0_g (n := 5) rfl
theorem dX8_byteAt_12 : decode cX8_byteAt 12 = .ok (.iload_n 1, 1) := nq_d dX8_byteAt_0_g (n := 6) rfl
theorem dX8_byteAt_13 : decode cX8_byteAt 13 = .ok (.sipush 240, 3) := nq_d dX8_byteAt_0_g (n := 7) rfl
theorem dX8_byteAt_16 : decode cX8_byteAt 16 = .ok (.if_icmp .ge 16, 3) := nq_d dX8_byteAt_0_g (n := 8) rfl
theorem dX8_byteAt_19 : decode cX8_byteAt 19 = .ok (.aload_n 0, 1) := nq_d dX8_byteAt_0_g (n := 9) rfl
theorem dX8_byteAt_20 : decode cX8_byteAt 20 = .ok (.getfield 9, 3) := nq_d dX8_byteAt_0_g (n := 10) rfl
theorem dX8_byteAt_23 : decode cX8_byteAt 23 = .ok (.iload_n 1, 1) := nq_d dX8_byteAt_0_g (n := 11) rfl
theorem dX8_byteAt_24 : decode cX8_byteAt 24 = .ok (.baload, 1) := nq_d dX8_byteAt_0_g (n := 12) rfl
theorem dX8_byteAt_25 : decode cX8_byteAt 25 = .ok (.sipush 255, 3) := nq_d dX8_byteAt_0_g (n := 13) rfl
theorem dX8_byteAt_28 : decode cX8_byteAt 28 = .ok (.iand, 1) := nq_d dX8_byteAt_0_g (n := 14) rfl
theorem dX8_byteAt_29 : decode cX8_byteAt 29 = .ok (.goto 4, 3) := nq_d dX8_byteAt_0_g (n := 15) rfl
theorem dX8_byteAt_32 : decode cX8_byteAt 32 = .ok (.iconst (-1), 1) := nq_d dX8_byteAt_0_g (n := 16) rfl
theorem dX8_byteAt_33 : decode cX8_byteAt 33 = .ok (.ireturn, 1) := nq_d dX8_byteAt_0_g (n := 17) rfl
set_option maxRecDepth 100000 in
theorem ggX8_isFigure_X8_byteAt : GoodIn wsX8_isFigure wsX8_byteAt := goodIn_sub (sub_c (nq_m (n := 5) rfl) (sub_c (nq_m (n := 6) rfl) (sub_c (nq_m (n := 7) rfl) (sub_c (nq_m (n := 11) rfl) (sub_c (nq_m (n := 12) rfl) (sub_c (nq_m (n := 13) rfl) (sub_c (nq_m (n := 14) rfl) (sub_c (nq_m (n := 15) rfl) (sub_c (nq_m (n := 16) rfl) (sub_c (nq_m (n := 17) rfl) (sub_c (nq_m (n := 18) rfl) sub_n))))))))))) (by decide +kernel)
set_option maxRecDepth 100000 in
theorem gX8_isFigure_X8_byteAt : GoodIn wsX8_isFigure (wsV RX8 115 RX8 yX8_byteAt wsX8_byteAt) := goodIn_app (goodIn_sub (sub_c (nq_m (n := 1) rfl) (sub_c (nq_m (n := 2) rfl) (sub_c (nq_m (n := 3) rfl) (sub_c (nq_m (n := 4) rfl) sub_n)))) (by decide +kernel)) ggX8_isFigure_X8_byteAt
set_option maxRecDepth 100000 in
theorem ggX8_isFigure_X10_within : GoodIn wsX8_isFigure wsX10_within := goodIn_sub (sub_c (nq_m (n := 10) rfl) sub_n) (by decide +kernel)
set_option maxRecDepth 100000 in
theorem gX8_isFigure_X10_within_n119 : GoodIn wsX8_isFigure (wsX10_within) := ggX8_isFigure_X10_within
noncomputable def dX8_isFigure_0_l : List (Nat × Instr × Nat) := [(0, .aload_n 0, 1), (1, .iload_n 1, 1), (2, .invokevirtual 115, 3), (5, .bipush 48, 2), (7, .bipush 57, 2), (9, .invokestatic 119, 3), (12, .ireturn, 1)]
set_option maxRecDepth 100000 in
theorem dX8_isFigure_0_g : dX8_isFigure_0_l.all (fun x => decide (decode cX8_isFigure x.1 = .ok x.2)) = true := by decide +kernel
theorem dX8_isFigure_0 : decode cX8_isFigure 0 = .ok (.aload_n 0, 1) := nq_d dX8_isFigure_0_g (n := 0) rfl
theorem dX8_isFigure_1 : decode cX8_isFigure 1 = .ok (.iload_n 1, 1) := nq_d dX8_isFigure_0_g (n := 1) rfl
theorem dX8_isFigure_2 : decode cX8_isFigure 2 = .ok (.invokevirtual 115, 3) := nq_d dX8_isFigure_0_g (n := 2) rfl
theorem dX8_isFigure_5 : decode cX8_isFigure 5 = .ok (.bipush 48, 2) := nq_d dX8_isFigure_0_g (n := 3) rfl
theorem dX8_isFigure_7 : decode cX8_isFigure 7 = .ok (.bipush 57, 2) := nq_d dX8_isFigure_0_g (n := 4) rfl
theorem dX8_isFigure_9 : decode cX8_isFigure 9 = .ok (.invokestatic 119, 3) := nq_d dX8_isFigure_0_g (n := 5) rfl
theorem dX8_isFigure_12 : decode cX8_isFigure 12 = .ok (.ireturn, 1) := nq_d dX8_isFigure_0_g (n := 6) rfl
set_option maxRecDepth 100000 in
theorem ggX8_isHere_J0_length_8abf5 : GoodIn wsX8_isHere wsJ0_length_8abf5 := goodIn_sub (sub_c (nq_m (n := 6) rfl) (sub_c (nq_m (n := 7) rfl) (sub_c (nq_m (n := 8) rfl) (sub_c (nq_m (n := 9) rfl) (sub_c (nq_m (n := 10) rfl) (sub_c (nq_m (n := 5) rfl) (sub_c (nq_m (n := 11) rfl) (sub_c (nq_m (n := 12) rfl) (sub_c (nq_m (n := 13) rfl) sub_n))))))))) (by decide +kernel)
set_option maxRecDepth 100000 in
theorem gX8_isHere_J0_length_8abf5 : GoodIn wsX8_isHere (wsV RX8 123 RJ0 yJ0_length_8abf5 wsJ0_length_8abf5) := goodIn_app (goodIn_sub (sub_c (nq_m (n := 2) rfl) (sub_c (nq_m (n := 3) rfl) (sub_c (nq_m (n := 4) rfl) (sub_c (nq_m (n := 5) rfl) sub_n)))) (by decide +kernel)) ggX8_isHere_J0_length_8abf5
set_option maxRecDepth 100000 in
theorem ggX8_isHere_X8_byteAt : GoodIn wsX8_isHere wsX8_byteAt := goodIn_sub (sub_c (nq_m (n := 18) rfl) (sub_c (nq_m (n := 19) rfl) (sub_c (nq_m (n := 20) rfl) (sub_c (nq_m (n := 58) rfl) (sub_c (nq_m (n := 59) rfl) (sub_c (nq_m (n := 60) rfl) (sub_c (nq_m (n := 61) rfl) (sub_c (nq_m (n := 62) rfl) (sub_c (nq_m (n := 63) rfl) (sub_c (nq_m (n := 64) rfl) (sub_c (nq_m (n := 65) rfl) sub_n))))))))))) (by decide +kernel)
set_option maxRecDepth 100000 in
theorem gX8_isHere_X8_byteAt : GoodIn wsX8_isHere (wsV RX8 115 RX8 yX8_byteAt wsX8_byteAt) := goodIn_app (goodIn_sub (sub_c (nq_m (n := 14) rfl) (sub_c (nq_m (n := 15) rfl) (sub_c (nq_m (n := 16) rfl) (sub_c (nq_m (n := 17) rfl) sub_n)))) (by decide +kernel)) ggX8_isHere_X8_byteAt
set_option maxRecDepth 100000 in
theorem ggX8_isHere_J0_charAt_5068e : GoodIn wsX8_isHere wsJ0_charAt_5068e := goodIn_sub (sub_c (nq_m (n := 24) rfl) (sub_c (nq_m (n := 7) rfl) (sub_c (nq_m (n := 25) rfl) (sub_c (nq_m (n := 26) rfl) (sub_c (nq_m (n := 27) rfl) (sub_c (nq_m (n := 5) rfl) (sub_c (nq_m (n := 28) rfl) (sub_c (nq_m (n := 12) rfl) (sub_c (nq_m (n := 13) rfl) (sub_c (nq_m (n := 29) rfl) (sub_c (nq_m (n := 30) rfl) (sub_c (nq_m (n := 31) rfl) (sub_c (nq_m (n := 32) rfl) (sub_c (nq_m (n := 33) rfl) (sub_c (nq_m (n := 34) rfl) (sub_c (nq_m (n := 35) rfl) (sub_c (nq_m (n := 36) rfl) (sub_c (nq_m (n := 37) rfl) (sub_c (nq_m (n := 38) rfl) (sub_c (nq_m (n := 39) rfl) (sub_c (nq_m (n := 40) rfl) (sub_c (nq_m (n := 41) rfl) (sub_c (nq_m (n := 42) rfl) (sub_c (nq_m (n := 43) rfl) (sub_c (nq_m (n := 44) rfl) (sub_c (nq_m (n := 45) rfl) (sub_c (nq_m (n := 46) rfl) (sub_c (nq_m (n := 47) rfl) (sub_c (nq_m (n := 48) rfl) (sub_c (nq_m (n := 49) rfl) (sub_c (nq_m (n := 50) rfl) (sub_c (nq_m (n := 51) rfl) (sub_c (nq_m (n := 52) rfl) (sub_c (nq_m (n := 53) rfl) (sub_c (nq_m (n := 54) rfl) (sub_c (nq_m (n := 55) rfl) (sub_c (nq_m (n := 56) rfl) (sub_c (nq_m (n := 57) rfl) sub_n)))))))))))))))))))))))))))))))))))))) (by decide +kernel)
set_option maxRecDepth 100000 in
theorem gX8_isHere_J0_charAt_5068e : GoodIn wsX8_isHere (wsV RX8 128 RJ0 yJ0_charAt_5068e wsJ0_charAt_5068e) := goodIn_app (goodIn_sub (sub_c (nq_m (n := 21) rfl) (sub_c (nq_m (n := 22) rfl) (sub_c (nq_m (n := 23) rfl) (sub_c (nq_m (n := 5) rfl) sub_n)))) (by decide +kernel)) ggX8_isHere_J0_charAt_5068e
noncomputable def dX8_isHere_0_l : List (Nat × Instr × Nat) := [(0, .iconst 0, 1), (1, .istore_n 2, 1), (2, .iload_n 2, 1), (3, .aload_n 1, 1), (4, .invokevirtual 123, 3), (7, .if_icmp .ge 29, 3), (10, .aload_n 0, 1), (11, .aload_n 0, 1), (12, .getfield 25, 3), (15, .iload_n 2, 1), (16, .iadd, 1), (17, .invokevirtual 115, 3), (20, .aload_n 1, 1), (21, .iload_n 2, 1), (22, .invokevirtual 128, 3), (25, .if_icmp .eq 5, 3), (28, .iconst 0, 1), (29, .ireturn, 1), (30, .iinc 2 1, 3), (33, .goto (-31), 3), (36, .aload_n 0, 1), (37, .aload_n 0, 1), (38, .getfield 25, 3), (41, .aload_n 1, 1), (42, .invokevirtual 123, 3), (45, .iadd, 1), (46, .invokevirtual 115, 3), (49, .istore_n 2, 1), (50, .iload_n 2, 1), (51, .bipush 97, 2), (53, .if_icmp .lt 9, 3), (56, .iload_n 2, 1), (57, .bipush 122, 2), (59, .if_icmp .le 7, 3), (62, .iconst 1, 1), (63, .goto 4, 3), (66, .iconst 0, 1), (67, .ireturn, 1)]
set_option maxRecDepth 100000 in
theorem dX8_isHere_0_g : dX8_isHere_0_l.all (fun x => decide (decode cX8_isHere x.1 = .ok x.2)) = true := by decide +kernel
theorem dX8_isHere_0 : decode cX8_isHere 0 = .ok (.iconst 0, 1) := nq_d dX8_isHere_0_g (n := 0) rfl
theorem dX8_isHere_1 : decode cX8_isHere 1 = .ok (.istore_n 2, 1) := nq_d dX8_isHere_0_g (n := 1) rfl
theorem dX8_isHere_2 : decode cX8_isHere 2 = .ok (.iload_n 2, 1) := nq_d dX8_isHere_0_g (n := 2) rfl
theorem dX8_isHere_3 : decode cX8_isHere 3 = .ok (.aload_n 1, 1) := nq_d dX8_isHere_0_g (n := 3) rfl
theorem dX8_isHere_4 : decode cX8_isHere 4 = .ok (.invokevirtual 123, 3) := nq_d dX8_isHere_0_g (n := 4) rfl
theorem dX8_isHere_7 : decode cX8_isHere 7 = .ok (.if_icmp .ge 29, 3) := nq_d dX8_isHere_0_g (n := 5) rfl
theorem dX8_isHere_10 : decode cX8_isHere 10 = .ok (.aload_n 0, 1) := nq_d dX8_isHere_0_g (n := 6) rfl
theorem dX8_isHere_11 : decode cX8_isHere 11 = .ok (.aload_n 0, 1) := nq_d dX8_isHere_0_g (n := 7) rfl
theorem dX8_isHere_12 : decode cX8_isHere 12 = .ok (.getfield 25, 3) := nq_d dX8_isHere_0_g (n := 8) rfl
theorem dX8_isHere_15 : decode cX8_isHere 15 = .ok (.iload_n 2, 1) := nq_d dX8_isHere_0_g (n := 9) rfl
theorem dX8_isHere_16 : decode cX8_isHere 16 = .ok (.iadd, 1) := nq_d dX8_isHere_0_g (n := 10) rfl
theorem dX8_isHere_17 : decode cX8_isHere 17 = .ok (.invokevirtual 115, 3) := nq_d dX8_isHere_0_g (n := 11) rfl
theorem dX8_isHere_20 : decode cX8_isHere 20 = .ok (.aload_n 1, 1) := nq_d dX8_isHere_0_g (n := 12) rfl
theorem dX8_isHere_21 : decode cX8_isHere 21 = .ok (.iload_n 2, 1) := nq_d dX8_isHere_0_g (n := 13) rfl
theorem dX8_isHere_22 : decode cX8_isHere 22 = .ok (.invokevirtual 128, 3) := nq_d dX8_isHere_0_g (n := 14) rfl
theorem dX8_isHere_25 : decode cX8_isHere 25 = .ok (.if_icmp .eq 5, 3) := nq_d dX8_isHere_0_g (n := 15) rfl
theorem dX8_isHere_28 : decode cX8_isHere 28 = .ok (.iconst 0, 1) := nq_d dX8_isHere_0_g (n := 16) rfl
theorem dX8_isHere_29 : decode cX8_isHere 29 = .ok (.ireturn, 1) := nq_d dX8_isHere_0_g (n := 17) rfl
theorem dX8_isHere_30 : decode cX8_isHere 30 = .ok (.iinc 2 1, 3) := nq_d dX8_isHere_0_g (n := 18) rfl
theorem dX8_isHere_33 : decode cX8_isHere 33 = .ok (.goto (-31), 3) := nq_d dX8_isHere_0_g (n := 19) rfl
theorem dX8_isHere_36 : decode cX8_isHere 36 = .ok (.aload_n 0, 1) := nq_d dX8_isHere_0_g (n := 20) rfl
theorem dX8_isHere_37 : decode cX8_isHere 37 = .ok (.aload_n 0, 1) := nq_d dX8_isHere_0_g (n := 21) rfl
theorem dX8_isHere_38 : decode cX8_isHere 38 = .ok (.getfield 25, 3) := nq_d dX8_isHere_0_g (n := 22) rfl
theorem dX8_isHere_41 : decode cX8_isHere 41 = .ok (.aload_n 1, 1) := nq_d dX8_isHere_0_g (n := 23) rfl
theorem dX8_isHere_42 : decode cX8_isHere 42 = .ok (.invokevirtual 123, 3) := nq_d dX8_isHere_0_g (n := 24) rfl
theorem dX8_isHere_45 : decode cX8_isHere 45 = .ok (.iadd, 1) := nq_d dX8_isHere_0_g (n := 25) rfl
theorem dX8_isHere_46 : decode cX8_isHere 46 = .ok (.invokevirtual 115, 3) := nq_d dX8_isHere_0_g (n := 26) rfl
theorem dX8_isHere_49 : decode cX8_isHere 49 = .ok (.istore_n 2, 1) := nq_d dX8_isHere_0_g (n := 27) rfl
theorem dX8_isHere_50 : decode cX8_isHere 50 = .ok (.iload_n 2, 1) := nq_d dX8_isHere_0_g (n := 28) rfl
theorem dX8_isHere_51 : decode cX8_isHere 51 = .ok (.bipush 97, 2) := nq_d dX8_isHere_0_g (n := 29) rfl
theorem dX8_isHere_53 : decode cX8_isHere 53 = .ok (.if_icmp .lt 9, 3) := nq_d dX8_isHere_0_g (n := 30) rfl
theorem dX8_isHere_56 : decode cX8_isHere 56 = .ok (.iload_n 2, 1) := nq_d dX8_isHere_0_g (n := 31) rfl
theorem dX8_isHere_57 : decode cX8_isHere 57 = .ok (.bipush 122, 2) := nq_d dX8_isHere_0_g (n := 32) rfl
theorem dX8_isHere_59 : decode cX8_isHere 59 = .ok (.if_icmp .le 7, 3) := nq_d dX8_isHere_0_g (n := 33) rfl
theorem dX8_isHere_62 : decode cX8_isHere 62 = .ok (.iconst 1, 1) := nq_d dX8_isHere_0_g (n := 34) rfl
theorem dX8_isHere_63 : decode cX8_isHere 63 = .ok (.goto 4, 3) := nq_d dX8_isHere_0_g (n := 35) rfl
theorem dX8_isHere_66 : decode cX8_isHere 66 = .ok (.iconst 0, 1) := nq_d dX8_isHere_0_g (n := 36) rfl
theorem dX8_isHere_67 : decode cX8_isHere 67 = .ok (.ireturn, 1) := nq_d dX8_isHere_0_g (n := 37) rfl
set_option maxRecDepth 100000 in
theorem ggX8_needWord_X8_skipBlanks : GoodIn wsX8_needWord wsX8_skipBlanks := goodIn_sub (sub_c (nq_m (n := 6) rfl) (sub_c (nq_m (n := 1) rfl) (sub_c (nq_m (n := 7) rfl) (sub_c (nq_m (n := 8) rfl) (sub_c (nq_m (n := 9) rfl) (sub_c (nq_m (n := 10) rfl) (sub_c (nq_m (n := 5) rfl) (sub_c (nq_m (n := 11) rfl) (sub_c (nq_m (n := 12) rfl) (sub_c (nq_m (n := 72) rfl) (sub_c (nq_m (n := 73) rfl) (sub_c (nq_m (n := 74) rfl) (sub_c (nq_m (n := 75) rfl) (sub_c (nq_m (n := 76) rfl) (sub_c (nq_m (n := 77) rfl) (sub_c (nq_m (n := 78) rfl) (sub_c (nq_m (n := 79) rfl) sub_n))))))))))))))))) (by decide +kernel)
set_option maxRecDepth 100000 in
theorem gX8_needWord_X8_skipBlanks : GoodIn wsX8_needWord (wsV RX8 44 RX8 yX8_skipBlanks wsX8_skipBlanks) := goodIn_app (goodIn_sub (sub_c (nq_m (n := 2) rfl) (sub_c (nq_m (n := 3) rfl) (sub_c (nq_m (n := 4) rfl) (sub_c (nq_m (n := 5) rfl) sub_n)))) (by decide +kernel)) ggX8_needWord_X8_skipBlanks
set_option maxRecDepth 100000 in
theorem ggX8_needWord_X8_isHere : GoodIn wsX8_needWord wsX8_isHere := goodIn_sub (sub_c (nq_m (n := 16) rfl) (sub_c (nq_m (n := 1) rfl) (sub_c (nq_m (n := 17) rfl) (sub_c (nq_m (n := 18) rfl) (sub_c (nq_m (n := 19) rfl) (sub_c (nq_m (n := 20) rfl) (sub_c (nq_m (n := 21) rfl) (sub_c (nq_m (n := 22) rfl) (sub_c (nq_m (n := 23) rfl) (sub_c (nq_m (n := 24) rfl) (sub_c (nq_m (n := 25) rfl) (sub_c (nq_m (n := 26) rfl) (sub_c (nq_m (n := 27) rfl) (sub_c (nq_m (n := 28) rfl) (sub_c (nq_m (n := 8) rfl) (sub_c (nq_m (n := 9) rfl) (sub_c (nq_m (n := 10) rfl) (sub_c (nq_m (n := 5) rfl) (sub_c (nq_m (n := 11) rfl) (sub_c (nq_m (n := 7) rfl) (sub_c (nq_m (n := 12) rfl) (sub_c (nq_m (n := 29) rfl) (sub_c (nq_m (n := 30) rfl) (sub_c (nq_m (n := 31) rfl) (sub_c (nq_m (n := 32) rfl) (sub_c (nq_m (n := 33) rfl) (sub_c (nq_m (n := 34) rfl) (sub_c (nq_m (n := 35) rfl) (sub_c (nq_m (n := 36) rfl) (sub_c (nq_m (n := 37) rfl) (sub_c (nq_m (n := 38) rfl) (sub_c (nq_m (n := 39) rfl) (sub_c (nq_m (n := 40) rfl) (sub_c (nq_m (n := 41) rfl) (sub_c (nq_m (n := 42) rfl) (sub_c (nq_m (n := 43) rfl) (sub_c (nq_m (n := 44) rfl) (sub_c (nq_m (n := 45) rfl) (sub_c (nq_m (n := 46) rfl) (sub_c (nq_m (n := 47) rfl) (sub_c (nq_m (n := 48) rfl) (sub_c (nq_m (n := 49) rfl) (sub_c (nq_m (n := 50) rfl) (sub_c (nq_m (n := 51) rfl) (sub_c (nq_m (n := 52) rfl) (sub_c (nq_m (n := 53) rfl) (sub_c (nq_m (n := 54) rfl) (sub_c (nq_m (n := 55) rfl) (sub_c (nq_m (n := 56) rfl) (sub_c (nq_m (n := 57) rfl) (sub_c (nq_m (n := 58) rfl) (sub_c (nq_m (n := 59) rfl) (sub_c (nq_m (n := 60) rfl) (sub_c (nq_m (n := 61) rfl) (sub_c (nq_m (n := 62) rfl) (sub_c (nq_m (n := 63) rfl) (sub_c (nq_m (n := 64) rfl) (sub_c (nq_m (n := 65) rfl) (sub_c (nq_m (n := 72) rfl) (sub_c (nq_m (n := 73) rfl) (sub_c (nq_m (n := 74) rfl) (sub_c (nq_m (n := 75) rfl) (sub_c (nq_m (n := 76) rfl) (sub_c (nq_m (n := 77) rfl) (sub_c (nq_m (n := 78) rfl) (sub_c (nq_m (n := 79) rfl) sub_n)))))))))))))))))))))))))))))))))))))))))))))))))))))))))))))))))) (by decide +kernel)
set_option maxRecDepth 100000 in
theorem gX8_needWord_X8_isHere : GoodIn wsX8_needWord (wsV RX8 52 RX8 yX8_isHere wsX8_isHere) := goodIn_app (goodIn_sub (sub_c (nq_m (n := 13) rfl) (sub_c (nq_m (n := 14) rfl) (sub_c (nq_m (n := 15) rfl) (sub_c (nq_m (n := 5) rfl) sub_n)))) (by decide +kernel)) ggX8_needWord_X8_isHere
set_option maxRecDepth 100000 in
theorem ggX8_needWord_J0_length_8abf5 : GoodIn wsX8_needWord wsJ0_length_8abf5 := goodIn_sub (sub_c (nq_m (n := 21) rfl) (sub_c (nq_m (n := 22) rfl) (sub_c (nq_m (n := 23) rfl) (sub_c (nq_m (n := 24) rfl) (sub_c (nq_m (n := 25) rfl) (sub_c (nq_m (n := 20) rfl) (sub_c (nq_m (n := 26) rfl) (sub_c (nq_m (n := 27) rfl) (sub_c (nq_m (n := 28) rfl) sub_n))))))))) (by decide +kernel)
set_option maxRecDepth 100000 in
theorem gX8_needWord_J0_length_8abf5 : GoodIn wsX8_needWord (wsV RX8 123 RJ0 yJ0_length_8abf5 wsJ0_length_8abf5) := goodIn_app (goodIn_sub (sub_c (nq_m (n := 17) rfl) (sub_c (nq_m (n := 18) rfl) (sub_c (nq_m (n := 19) rfl) (sub_c (nq_m (n := 20) rfl) sub_n)))) (by decide +kernel)) ggX8_needWord_J0_length_8abf5
set_option maxRecDepth 100000 in
theorem ggX8_needWord_X8_fail : GoodIn wsX8_needWord wsX8_fail := goodIn_sub (sub_c (nq_m (n := 69) rfl) (sub_c (nq_m (n := 70) rfl) (sub_c (nq_m (n := 71) rfl) (sub_c (nq_m (n := 72) rfl) (sub_c (nq_m (n := 73) rfl) (sub_c (nq_m (n := 74) rfl) (sub_c (nq_m (n := 75) rfl) (sub_c (nq_m (n := 76) rfl) (sub_c (nq_m (n := 77) rfl) (sub_c (nq_m (n := 78) rfl) (sub_c (nq_m (n := 79) rfl) sub_n))))))))))) (by decide +kernel)
set_option maxRecDepth 100000 in
theorem gX8_needWord_X8_fail : GoodIn wsX8_needWord (wsV RX8 94 RX8 yX8_fail wsX8_fail) := goodIn_app (goodIn_sub (sub_c (nq_m (n := 66) rfl) (sub_c (nq_m (n := 67) rfl) (sub_c (nq_m (n := 68) rfl) (sub_c (nq_m (n := 5) rfl) sub_n)))) (by decide +kernel)) ggX8_needWord_X8_fail
noncomputable def dX8_needWord_0_l : List (Nat × Instr × Nat) := [(0, .aload_n 0, 1), (1, .invokevirtual 44, 3), (4, .aload_n 0, 1), (5, .aload_n 1, 1), (6, .invokevirtual 52, 3), (9, .ifCond .eq 19, 3), (12, .aload_n 0, 1), (13, .dup, 1), (14, .getfield 25, 3), (17, .aload_n 1, 1), (18, .invokevirtual 123, 3), (21, .iadd, 1), (22, .putfield 25, 3), (25, .goto 12, 3), (28, .aload_n 0, 1), (29, .iconst 1, 1), (30, .aload_n 0, 1), (31, .getfield 25, 3), (34, .invokevirtual 94, 3), (37, .return_, 1)]
set_option maxRecDepth 100000 in
theorem dX8_needWord_0_g : dX8_needWord_0_l.all (fun x => decide (decode cX8_needWord x.1 = .ok x.2)) = true := by decide +kernel
theorem dX8_needWord_0 : decode cX8_needWord 0 = .ok (.aload_n 0, 1) := nq_d dX8_needWord_0_g (n := 0) rfl
theorem dX8_needWord_1 : decode cX8_needWord 1 = .ok (.invokevirtual 44, 3) := nq_d dX8_needWord_0_g (n := 1) rfl
theorem dX8_needWord_4 : decode cX8_needWord 4 = .ok (.aload_n 0, 1) := nq_d dX8_needWord_0_g (n := 2) rfl
theorem dX8_needWord_5 : decode cX8_needWord 5 = .ok (.aload_n 1, 1) := nq_d dX8_needWord_0_g (n := 3) rfl
theorem dX8_needWord_6 : decode cX8_needWord 6 = .ok (.invokevirtual 52, 3) := nq_d dX8_needWord_0_g (n := 4) rfl
theorem dX8_needWord_9 : decode cX8_needWord 9 = .ok (.ifCond .eq 19, 3) := nq_d dX8_needWord_0_g (n := 5) rfl
theorem dX8_needWord_12 : decode cX8_needWord 12 = .ok (.aload_n 0, 1) := nq_d dX8_needWord_0_g (n := 6) rfl
theorem dX8_needWord_13 : decode cX8_needWord 13 = .ok (.dup, 1) := nq_d dX8_needWord_0_g (n := 7) rfl
theorem dX8_needWord_14 : decode cX8_needWord 14 = .ok (.getfield 25, 3) := nq_d dX8_needWord_0_g (n := 8) rfl
theorem dX8_needWord_17 : decode cX8_needWord 17 = .ok (.aload_n 1, 1) := nq_d dX8_needWord_0_g (n := 9) rfl
theorem dX8_needWord_18 : decode cX8_needWord 18 = .ok (.invokevirtual 123, 3) := nq_d dX8_needWord_0_g (n := 10) rfl
theorem dX8_needWord_21 : decode cX8_needWord 21 = .ok (.iadd, 1) := nq_d dX8_needWord_0_g (n := 11) rfl
theorem dX8_needWord_22 : decode cX8_needWord 22 = .ok (.putfield 25, 3) := nq_d dX8_needWord_0_g (n := 12) rfl
theorem dX8_needWord_25 : decode cX8_needWord 25 = .ok (.goto 12, 3) := nq_d dX8_needWord_0_g (n := 13) rfl
theorem dX8_needWord_28 : decode cX8_needWord 28 = .ok (.aload_n 0, 1) := nq_d dX8_needWord_0_g (n := 14) rfl
theorem dX8_needWord_29 : decode cX8_needWord 29 = .ok (.iconst 1, 1) := nq_d dX8_needWord_0_g (n := 15) rfl
theorem dX8_needWord_30 : decode cX8_needWord 30 = .ok (.aload_n 0, 1) := nq_d dX8_needWord_0_g (n := 16) rfl
theorem dX8_needWord_31 : decode cX8_needWord 31 = .ok (.getfield 25, 3) := nq_d dX8_needWord_0_g (n := 17) rfl
theorem dX8_needWord_34 : decode cX8_needWord 34 = .ok (.invokevirtual 94, 3) := nq_d dX8_needWord_0_g (n := 18) rfl
theorem dX8_needWord_37 : decode cX8_needWord 37 = .ok (.return_, 1) := nq_d dX8_needWord_0_g (n := 19) rfl
set_option maxRecDepth 100000 in
theorem ggX8_needEnd_X8_skipBlanks : GoodIn wsX8_needEnd wsX8_skipBlanks := goodIn_sub (sub_c (nq_m (n := 6) rfl) (sub_c (nq_m (n := 1) rfl) (sub_c (nq_m (n := 7) rfl) (sub_c (nq_m (n := 8) rfl) (sub_c (nq_m (n := 9) rfl) (sub_c (nq_m (n := 10) rfl) (sub_c (nq_m (n := 5) rfl) (sub_c (nq_m (n := 11) rfl) (sub_c (nq_m (n := 12) rfl) (sub_c (nq_m (n := 19) rfl) (sub_c (nq_m (n := 20) rfl) (sub_c (nq_m (n := 21) rfl) (sub_c (nq_m (n := 22) rfl) (sub_c (nq_m (n := 23) rfl) (sub_c (nq_m (n := 24) rfl) (sub_c (nq_m (n := 25) rfl) (sub_c (nq_m (n := 26) rfl) sub_n))))))))))))))))) (by decide +kernel)
set_option maxRecDepth 100000 in
theorem gX8_needEnd_X8_skipBlanks : GoodIn wsX8_needEnd (wsV RX8 44 RX8 yX8_skipBlanks wsX8_skipBlanks) := goodIn_app (goodIn_sub (sub_c (nq_m (n := 2) rfl) (sub_c (nq_m (n := 3) rfl) (sub_c (nq_m (n := 4) rfl) (sub_c (nq_m (n := 5) rfl) sub_n)))) (by decide +kernel)) ggX8_needEnd_X8_skipBlanks
set_option maxRecDepth 100000 in
theorem ggX8_needEnd_X8_byteAt : GoodIn wsX8_needEnd wsX8_byteAt := goodIn_sub (sub_c (nq_m (n := 11) rfl) (sub_c (nq_m (n := 7) rfl) (sub_c (nq_m (n := 12) rfl) (sub_c (nq_m (n := 19) rfl) (sub_c (nq_m (n := 20) rfl) (sub_c (nq_m (n := 21) rfl) (sub_c (nq_m (n := 22) rfl) (sub_c (nq_m (n := 23) rfl) (sub_c (nq_m (n := 24) rfl) (sub_c (nq_m (n := 25) rfl) (sub_c (nq_m (n := 26) rfl) sub_n))))))))))) (by decide +kernel)
set_option maxRecDepth 100000 in
theorem gX8_needEnd_X8_byteAt : GoodIn wsX8_needEnd (wsV RX8 115 RX8 yX8_byteAt wsX8_byteAt) := goodIn_app (goodIn_sub (sub_c (nq_m (n := 8) rfl) (sub_c (nq_m (n := 9) rfl) (sub_c (nq_m (n := 10) rfl) (sub_c (nq_m (n := 5) rfl) sub_n)))) (by decide +kernel)) ggX8_needEnd_X8_byteAt
set_option maxRecDepth 100000 in
theorem ggX8_needEnd_X8_fail : GoodIn wsX8_needEnd wsX8_fail := goodIn_sub (sub_c (nq_m (n := 16) rfl) (sub_c (nq_m (n := 17) rfl) (sub_c (nq_m (n := 18) rfl) (sub_c (nq_m (n := 19) rfl) (sub_c (nq_m (n := 20) rfl) (sub_c (nq_m (n := 21) rfl) (sub_c (nq_m (n := 22) rfl) (sub_c (nq_m (n := 23) rfl) (sub_c (nq_m (n := 24) rfl) (sub_c (nq_m (n := 25) rfl) (sub_c (nq_m (n := 26) rfl) sub_n))))))))))) (by decide +kernel)
set_option maxRecDepth 100000 in
theorem gX8_needEnd_X8_fail : GoodIn wsX8_needEnd (wsV RX8 94 RX8 yX8_fail wsX8_fail) := goodIn_app (goodIn_sub (sub_c (nq_m (n := 13) rfl) (sub_c (nq_m (n := 14) rfl) (sub_c (nq_m (n := 15) rfl) (sub_c (nq_m (n := 5) rfl) sub_n)))) (by decide +kernel)) ggX8_needEnd_X8_fail
noncomputable def dX8_needEnd_0_l : List (Nat × Instr × Nat) := [(0, .aload_n 0, 1), (1, .invokevirtual 44, 3), (4, .aload_n 0, 1), (5, .aload_n 0, 1), (6, .getfield 25, 3), (9, .invokevirtual 115, 3), (12, .bipush 59, 2), (14, .if_icmp .ne 16, 3), (17, .aload_n 0, 1), (18, .dup, 1), (19, .getfield 25, 3), (22, .iconst 1, 1), (23, .iadd, 1), (24, .putfield 25, 3), (27, .goto 12, 3), (30, .aload_n 0, 1), (31, .iconst 1, 1), (32, .aload_n 0, 1), (33, .getfield 25, 3), (36, .invokevirtual 94, 3), (39, .return_, 1)]
set_option maxRecDepth 100000 in
theorem dX8_needEnd_0_g : dX8_needEnd_0_l.all (fun x => decide (decode cX8_needEnd x.1 = .ok x.2)) = true := by decide +kernel
theorem dX8_needEnd_0 : decode cX8_needEnd 0 = .ok (.aload_n 0, 1) := nq_d dX8_needEnd_0_g (n := 0) rfl
theorem dX8_needEnd_1 : decode cX8_needEnd 1 = .ok (.invokevirtual 44, 3) := nq_d dX8_needEnd_0_g (n := 1) rfl
theorem dX8_needEnd_4 : decode cX8_needEnd 4 = .ok (.aload_n 0, 1) := nq_d dX8_needEnd_0_g (n := 2) rfl
theorem dX8_needEnd_5 : decode cX8_needEnd 5 = .ok (.aload_n 0, 1) := nq_d dX8_needEnd_0_g (n := 3) rfl
theorem dX8_needEnd_6 : decode cX8_needEnd 6 = .ok (.getfield 25, 3) := nq_d dX8_needEnd_0_g (n := 4) rfl
theorem dX8_needEnd_9 : decode cX8_needEnd 9 = .ok (.invokevirtual 115, 3) := nq_d dX8_needEnd_0_g (n := 5) rfl
theorem dX8_needEnd_12 : decode cX8_needEnd 12 = .ok (.bipush 59, 2) := nq_d dX8_needEnd_0_g (n := 6) rfl
theorem dX8_needEnd_14 : decode cX8_needEnd 14 = .ok (.if_icmp .ne 16, 3) := nq_d dX8_needEnd_0_g (n := 7) rfl
theorem dX8_needEnd_17 : decode cX8_needEnd 17 = .ok (.aload_n 0, 1) := nq_d dX8_needEnd_0_g (n := 8) rfl
theorem dX8_needEnd_18 : decode cX8_needEnd 18 = .ok (.dup, 1) := nq_d dX8_needEnd_0_g (n := 9) rfl
theorem dX8_needEnd_19 : decode cX8_needEnd 19 = .ok (.getfield 25, 3) := nq_d dX8_needEnd_0_g (n := 10) rfl
theorem dX8_needEnd_22 : decode cX8_needEnd 22 = .ok (.iconst 1, 1) := nq_d dX8_needEnd_0_g (n := 11) rfl
theorem dX8_needEnd_23 : decode cX8_needEnd 23 = .ok (.iadd, 1) := nq_d dX8_needEnd_0_g (n := 12) rfl
theorem dX8_needEnd_24 : decode cX8_needEnd 24 = .ok (.putfield 25, 3) := nq_d dX8_needEnd_0_g (n := 13) rfl
theorem dX8_needEnd_27 : decode cX8_needEnd 27 = .ok (.goto 12, 3) := nq_d dX8_needEnd_0_g (n := 14) rfl
theorem dX8_needEnd_30 : decode cX8_needEnd 30 = .ok (.aload_n 0, 1) := nq_d dX8_needEnd_0_g (n := 15) rfl
theorem dX8_needEnd_31 : decode cX8_needEnd 31 = .ok (.iconst 1, 1) := nq_d dX8_needEnd_0_g (n := 16) rfl
theorem dX8_needEnd_32 : decode cX8_needEnd 32 = .ok (.aload_n 0, 1) := nq_d dX8_needEnd_0_g (n := 17) rfl
theorem dX8_needEnd_33 : decode cX8_needEnd 33 = .ok (.getfield 25, 3) := nq_d dX8_needEnd_0_g (n := 18) rfl
theorem dX8_needEnd_36 : decode cX8_needEnd 36 = .ok (.invokevirtual 94, 3) := nq_d dX8_needEnd_0_g (n := 19) rfl
theorem dX8_needEnd_39 : decode cX8_needEnd 39 = .ok (.return_, 1) := nq_d dX8_needEnd_0_g (n := 20) rfl
set_option maxRecDepth 100000 in
theorem ggX8_needNumber_X8_skipBlanks : GoodIn wsX8_needNumber wsX8_skipBlanks := goodIn_sub (sub_c (nq_m (n := 8) rfl) (sub_c (nq_m (n := 1) rfl) (sub_c (nq_m (n := 3) rfl) (sub_c (nq_m (n := 9) rfl) (sub_c (nq_m (n := 10) rfl) (sub_c (nq_m (n := 11) rfl) (sub_c (nq_m (n := 7) rfl) (sub_c (nq_m (n := 12) rfl) (sub_c (nq_m (n := 13) rfl) (sub_c (nq_m (n := 27) rfl) (sub_c (nq_m (n := 28) rfl) (sub_c (nq_m (n := 29) rfl) (sub_c (nq_m (n := 30) rfl) (sub_c (nq_m (n := 31) rfl) (sub_c (nq_m (n := 32) rfl) (sub_c (nq_m (n := 33) rfl) (sub_c (nq_m (n := 34) rfl) sub_n))))))))))))))))) (by decide +kernel)
set_option maxRecDepth 100000 in
theorem gX8_needNumber_X8_skipBlanks : GoodIn wsX8_needNumber (wsV RX8 44 RX8 yX8_skipBlanks wsX8_skipBlanks) := goodIn_app (goodIn_sub (sub_c (nq_m (n := 4) rfl) (sub_c (nq_m (n := 5) rfl) (sub_c (nq_m (n := 6) rfl) (sub_c (nq_m (n := 7) rfl) sub_n)))) (by decide +kernel)) ggX8_needNumber_X8_skipBlanks
set_option maxRecDepth 100000 in
theorem ggX8_needNumber_X8_isFigure : GoodIn wsX8_needNumber wsX8_isFigure := goodIn_sub (sub_c (nq_m (n := 17) rfl) (sub_c (nq_m (n := 9) rfl) (sub_c (nq_m (n := 10) rfl) (sub_c (nq_m (n := 11) rfl) (sub_c (nq_m (n := 7) rfl) (sub_c (nq_m (n := 12) rfl) (sub_c (nq_m (n := 3) rfl) (sub_c (nq_m (n := 13) rfl) (sub_c (nq_m (n := 18) rfl) (sub_c (nq_m (n := 19) rfl) (sub_c (nq_m (n := 20) rfl) (sub_c (nq_m (n := 27) rfl) (sub_c (nq_m (n := 28) rfl) (sub_c (nq_m (n := 29) rfl) (sub_c (nq_m (n := 30) rfl) (sub_c (nq_m (n := 31) rfl) (sub_c (nq_m (n := 32) rfl) (sub_c (nq_m (n := 33) rfl) (sub_c (nq_m (n := 34) rfl) sub_n))))))))))))))))))) (by decide +kernel)
set_option maxRecDepth 100000 in
theorem gX8_needNumber_X8_isFigure : GoodIn wsX8_needNumber (wsV RX8 132 RX8 yX8_isFigure wsX8_isFigure) := goodIn_app (goodIn_sub (sub_c (nq_m (n := 14) rfl) (sub_c (nq_m (n := 15) rfl) (sub_c (nq_m (n := 16) rfl) (sub_c (nq_m (n := 7) rfl) sub_n)))) (by decide +kernel)) ggX8_needNumber_X8_isFigure
set_option maxRecDepth 100000 in
theorem ggX8_needNumber_X8_byteAt : GoodIn wsX8_needNumber wsX8_byteAt := goodIn_sub (sub_c (nq_m (n := 12) rfl) (sub_c (nq_m (n := 3) rfl) (sub_c (nq_m (n := 13) rfl) (sub_c (nq_m (n := 27) rfl) (sub_c (nq_m (n := 28) rfl) (sub_c (nq_m (n := 29) rfl) (sub_c (nq_m (n := 30) rfl) (sub_c (nq_m (n := 31) rfl) (sub_c (nq_m (n := 32) rfl) (sub_c (nq_m (n := 33) rfl) (sub_c (nq_m (n := 34) rfl) sub_n))))))))))) (by decide +kernel)
set_option maxRecDepth 100000 in
theorem gX8_needNumber_X8_byteAt : GoodIn wsX8_needNumber (wsV RX8 115 RX8 yX8_byteAt wsX8_byteAt) := goodIn_app (goodIn_sub (sub_c (nq_m (n := 9) rfl) (sub_c (nq_m (n := 10) rfl) (sub_c (nq_m (n := 11) rfl) (sub_c (nq_m (n := 7) rfl) sub_n)))) (by decide +kernel)) ggX8_needNumber_X8_byteAt
set_option maxRecDepth 100000 in
theorem ggX8_needNumber_X8_fail : GoodIn wsX8_needNumber wsX8_fail := goodIn_sub (sub_c (nq_m (n := 24) rfl) (sub_c (nq_m (n := 25) rfl) (sub_c (nq_m (n := 26) rfl) (sub_c (nq_m (n := 27) rfl) (sub_c (nq_m (n := 28) rfl) (sub_c (nq_m (n := 29) rfl) (sub_c (nq_m (n := 30) rfl) (sub_c (nq_m (n := 31) rfl) (sub_c (nq_m (n := 32) rfl) (sub_c (nq_m (n := 33) rfl) (sub_c (nq_m (n := 34) rfl) sub_n))))))))))) (by decide +kernel)
set_option maxRecDepth 100000 in
theorem gX8_needNumber_X8_fail : GoodIn wsX8_needNumber (wsV RX8 94 RX8 yX8_fail wsX8_fail) := goodIn_app (goodIn_sub (sub_c (nq_m (n := 21) rfl) (sub_c (nq_m (n := 22) rfl) (sub_c (nq_m (n := 23) rfl) (sub_c (nq_m (n := 7) rfl) sub_n)))) (by decide +kernel)) ggX8_needNumber_X8_fail
set_option maxRecDepth 100000 in
theorem ggX8_needNumber_X10_within : GoodIn wsX8_needNumber wsX10_within := goodIn_sub (sub_c (nq_m (n := 20) rfl) sub_n) (by decide +kernel)
set_option maxRecDepth 100000 in
theorem gX8_needNumber_X10_within_n119 : GoodIn wsX8_needNumber (wsX10_within) := ggX8_needNumber_X10_within
noncomputable def dX8_needNumber_0_l : List (Nat × Instr × Nat) := [(0, .aload_n 0, 1), (1, .invokevirtual 44, 3), (4, .aload_n 0, 1), (5, .aload_n 0, 1), (6, .getfield 25, 3), (9, .putfield 28, 3), (12, .iconst 0, 1), (13, .istore_n 3, 1), (14, .aload_n 0, 1), (15, .getfield 25, 3), (18, .aload_n 0, 1), (19, .getfield 15, 3), (22, .if_icmp .ge 57, 3), (25, .aload_n 0, 1), (26, .aload_n 0, 1), (27, .getfield 25, 3), (30, .invokevirtual 132, 3), (33, .ifCond .eq 46, 3), (36, .aload_n 0, 1), (37, .getfield 25, 3), (40, .aload_n 0, 1), (41, .getfield 28, 3), (44, .isub, 1), (45, .iconst 3, 1), (46, .if_icmp .ge 20, 3), (49, .iload_n 3, 1), (50, .bipush 10, 2), (52, .imul, 1), (53, .aload_n 0, 1), (54, .aload_n 0, 1), (55, .getfield 25, 3), (58, .invokevirtual 115, 3), (61, .iadd, 1), (62, .bipush 48, 2), (64, .isub, 1), (65, .istore_n 3, 1), (66, .aload_n 0, 1), (67, .dup, 1), (68, .getfield 25, 3), (71, .iconst 1, 1)]
set_option maxRecDepth 100000 in
theorem dX8_needNumber_0_g : dX8_needNumber_0_l.all (fun x => decide (decode cX8_needNumber x.1 = .ok x.2)) = true := by decide +kernel
theorem dX8_needNumber_0 : decode cX8_needNumber 0 = .ok (.aload_n 0, 1) := nq_d dX8_needNumber_0_g (n := 0) rfl
theorem dX8_needNumber_1 : decode cX8_needNumber 1 = .ok (.invokevirtual 44, 3) := nq_d dX8_needNumber_0_g (n := 1) rfl
theorem dX8_needNumber_4 : decode cX8_needNumber 4 = .ok (.aload_n 0, 1) := nq_d dX8_needNumber_0_g (n := 2) rfl
theorem dX8_needNumber_5 : decode cX8_needNumber 5 = .ok (.aload_n 0, 1) := nq_d dX8_needNumber_0_g (n := 3) rfl
theorem dX8_needNumber_6 : decode cX8_needNumber 6 = .ok (.getfield 25, 3) := nq_d dX8_needNumber_0_g (n := 4) rfl
theorem dX8_needNumber_9 : decode cX8_needNumber 9 = .ok (.putfield 28, 3) := nq_d dX8_needNumber_0_g (n := 5) rfl
theorem dX8_needNumber_12 : decode cX8_needNumber 12 = .ok (.iconst 0, 1) := nq_d dX8_needNumber_0_g (n := 6) rfl
theorem dX8_needNumber_13 : decode cX8_needNumber 13 = .ok (.istore_n 3, 1) := nq_d dX8_needNumber_0_g (n := 7) rfl
theorem dX8_needNumber_14 : decode cX8_needNumber 14 = .ok (.aload_n 0, 1) := nq_d dX8_needNumber_0_g (n := 8) rfl
theorem dX8_needNumber_15 : decode cX8_needNumber 15 = .ok (.getfield 25, 3) := nq_d dX8_needNumber_0_g (n := 9) rfl
theorem dX8_needNumber_18 : decode cX8_needNumber 18 = .ok (.aload_n 0, 1) := nq_d dX8_needNumber_0_g (n := 10) rfl
theorem dX8_needNumber_19 : decode cX8_needNumber 19 = .ok (.getfield 15, 3) := nq_d dX8_needNumber_0_g (n := 11) rfl
theorem dX8_needNumber_22 : decode cX8_needNumber 22 = .ok (.if_icmp .ge 57, 3) := nq_d dX8_needNumber_0_g (n := 12) rfl
theorem dX8_needNumber_25 : decode cX8_needNumber 25 = .ok (.aload_n 0, 1) := nq_d dX8_needNumber_0_g (n := 13) rfl
theorem dX8_needNumber_26 : decode cX8_needNumber 26 = .ok (.aload_n 0, 1) := nq_d dX8_needNumber_0_g (n := 14) rfl
theorem dX8_needNumber_27 : decode cX8_needNumber 27 = .ok (.getfield 25, 3) := nq_d dX8_needNumber_0_g (n := 15) rfl
theorem dX8_needNumber_30 : decode cX8_needNumber 30 = .ok (.invokevirtual 132, 3) := nq_d dX8_needNumber_0_g (n := 16) rfl
theorem dX8_needNumber_33 : decode cX8_needNumber 33 = .ok (.ifCond .eq 46, 3) := nq_d dX8_needNumber_0_g (n := 17) rfl
theorem dX8_needNumber_36 : decode cX8_needNumber 36 = .ok (.aload_n 0, 1) := nq_d dX8_needNumber_0_g (n := 18) rfl
theorem dX8_needNumber_37 : decode cX8_needNumber 37 = .ok (.getfield 25, 3) := nq_d dX8_needNumber_0_g (n := 19) rfl
theorem dX8_needNumber_40 : decode cX8_needNumber 40 = .ok (.aload_n 0, 1) := nq_d dX8_needNumber_0_g (n := 20) rfl
theorem dX8_needNumber_41 : decode cX8_needNumber 41 = .ok (.getfield 28, 3) := nq_d dX8_needNumber_0_g (n := 21) rfl
theorem dX8_needNumber_44 : decode cX8_needNumber 44 = .ok (.isub, 1) := nq_d dX8_needNumber_0_g (n := 22) rfl
theorem dX8_needNumber_45 : decode cX8_needNumber 45 = .ok (.iconst 3, 1) := nq_d dX8_needNumber_0_g (n := 23) rfl
theorem dX8_needNumber_46 : decode cX8_needNumber 46 = .ok (.if_icmp .ge 20, 3) := nq_d dX8_needNumber_0_g (n := 24) rfl
theorem dX8_needNumber_49 : decode cX8_needNumber 49 = .ok (.iload_n 3, 1) := nq_d dX8_needNumber_0_g (n := 25) rfl
theorem dX8_needNumber_50 : decode cX8_needNumber 50 = .ok (.bipush 10, 2) := nq_d dX8_needNumber_0_g (n := 26) rfl
theorem dX8_needNumber_52 : decode cX8_needNumber 52 = .ok (.imul, 1) := nq_d dX8_needNumber_0_g (n := 27) rfl
theorem dX8_needNumber_53 : decode cX8_needNumber 53 = .ok (.aload_n 0, 1) := nq_d dX8_needNumber_0_g (n := 28) rfl
theorem dX8_needNumber_54 : decode cX8_needNumber 54 = .ok (.aload_n 0, 1) := nq_d dX8_needNumber_0_g (n := 29) rfl
theorem dX8_needNumber_55 : decode cX8_needNumber 55 = .ok (.getfield 25, 3) := nq_d dX8_needNumber_0_g (n := 30) rfl
theorem dX8_needNumber_58 : decode cX8_needNumber 58 = .ok (.invokevirtual 115, 3) := nq_d dX8_needNumber_0_g (n := 31) rfl
theorem dX8_needNumber_61 : decode cX8_needNumber 61 = .ok (.iadd, 1) := nq_d dX8_needNumber_0_g (n := 32) rfl
theorem dX8_needNumber_62 : decode cX8_needNumber 62 = .ok (.bipush 48, 2) := nq_d dX8_needNumber_0_g (n := 33) rfl
theorem dX8_needNumber_64 : decode cX8_needNumber 64 = .ok (.isub, 1) := nq_d dX8_needNumber_0_g (n := 34) rfl
theorem dX8_needNumber_65 : decode cX8_needNumber 65 = .ok (.istore_n 3, 1) := nq_d dX8_needNumber_0_g (n := 35) rfl
theorem dX8_needNumber_66 : decode cX8_needNumber 66 = .ok (.aload_n 0, 1) := nq_d dX8_needNumber_0_g (n := 36) rfl
theorem dX8_needNumber_67 : decode cX8_needNumber 67 = .ok (.dup, 1) := nq_d dX8_needNumber_0_g (n := 37) rfl
theorem dX8_needNumber_68 : decode cX8_needNumber 68 = .ok (.getfield 25, 3) := nq_d dX8_needNumber_0_g (n := 38) rfl
theorem dX8_needNumber_71 : decode cX8_needNumber 71 = .ok (.iconst 1, 1) := nq_d dX8_needNumber_0_g (n := 39) rfl
noncomputable def dX8_needNumber_72_l : List (Nat × Instr × Nat) := [(72, .iadd, 1), (73, .putfield 25, 3), (76, .goto (-62), 3), (79, .aload_n 0, 1), (80, .getfield 25, 3), (83, .aload_n 0, 1), (84, .getfield 28, 3), (87, .if_icmp .ne 15, 3), (90, .aload_n 0, 1), (91, .iconst 1, 1), (92, .aload_n 0, 1), (93, .getfield 28, 3), (96, .invokevirtual 94, 3), (99, .goto 34, 3), (102, .aload_n 0, 1), (103, .getfield 25, 3), (106, .aload_n 0, 1), (107, .getfield 28, 3), (110, .isub, 1), (111, .iconst 3, 1), (112, .if_icmp .gt 12, 3), (115, .iload_n 3, 1), (116, .iload_n 1, 1), (117, .iload_n 2, 1), (118, .invokestatic 119, 3), (121, .ifCond .ne 12, 3), (124, .aload_n 0, 1), (125, .iconst 2, 1), (126, .aload_n 0, 1), (127, .getfield 28, 3), (130, .invokevirtual 94, 3), (133, .iload_n 3, 1), (134, .ireturn, 1)]
set_option maxRecDepth 100000 in
theorem dX8_needNumber_72_g : dX8_needNumber_72_l.all (fun x => decide (decode cX8_needNumber x.1 = .ok x.2)) = true := by decide +kernel
theorem dX8_needNumber_72 : decode cX8_needNumber 72 = .ok (.iadd, 1) := nq_d dX8_needNumber_72_g (n := 0) rfl
theorem dX8_needNumber_73 : decode cX8_needNumber 73 = .ok (.putfield 25, 3) := nq_d dX8_needNumber_72_g (n := 1) rfl
theorem dX8_needNumber_76 : decode cX8_needNumber 76 = .ok (.goto (-62), 3) := nq_d dX8_needNumber_72_g (n := 2) rfl
theorem dX8_needNumber_79 : decode cX8_needNumber 79 = .ok (.aload_n 0, 1) := nq_d dX8_needNumber_72_g (n := 3) rfl
theorem dX8_needNumber_80 : decode cX8_needNumber 80 = .ok (.getfield 25, 3) := nq_d dX8_needNumber_72_g (n := 4) rfl
theorem dX8_needNumber_83 : decode cX8_needNumber 83 = .ok (.aload_n 0, 1) := nq_d dX8_needNumber_72_g (n := 5) rfl
theorem dX8_needNumber_84 : decode cX8_needNumber 84 = .ok (.getfield 28, 3) := nq_d dX8_needNumber_72_g (n := 6) rfl
theorem dX8_needNumber_87 : decode cX8_needNumber 87 = .ok (.if_icmp .ne 15, 3) := nq_d dX8_needNumber_72_g (n := 7) rfl
theorem dX8_needNumber_90 : decode cX8_needNumber 90 = .ok (.aload_n 0, 1) := nq_d dX8_needNumber_72_g (n := 8) rfl
theorem dX8_needNumber_91 : decode cX8_needNumber 91 = .ok (.iconst 1, 1) := nq_d dX8_needNumber_72_g (n := 9) rfl
theorem dX8_needNumber_92 : decode cX8_needNumber 92 = .ok (.aload_n 0, 1) := nq_d dX8_needNumber_72_g (n := 10) rfl
theorem dX8_needNumber_93 : decode cX8_needNumber 93 = .ok (.getfield 28, 3) := nq_d dX8_needNumber_72_g (n := 11) rfl
theorem dX8_needNumber_96 : decode cX8_needNumber 96 = .ok (.invokevirtual 94, 3) := nq_d dX8_needNumber_72_g (n := 12) rfl
theorem dX8_needNumber_99 : decode cX8_needNumber 99 = .ok (.goto 34, 3) := nq_d dX8_needNumber_72_g (n := 13) rfl
theorem dX8_needNumber_102 : decode cX8_needNumber 102 = .ok (.aload_n 0, 1) := nq_d dX8_needNumber_72_g (n := 14) rfl
theorem dX8_needNumber_103 : decode cX8_needNumber 103 = .ok (.getfield 25, 3) := nq_d dX8_needNumber_72_g (n := 15) rfl
theorem dX8_needNumber_106 : decode cX8_needNumber 106 = .ok (.aload_n 0, 1) := nq_d dX8_needNumber_72_g (n := 16) rfl
theorem dX8_needNumber_107 : decode cX8_needNumber 107 = .ok (.getfield 28, 3) := nq_d dX8_needNumber_72_g (n := 17) rfl
theorem dX8_needNumber_110 : decode cX8_needNumber 110 = .ok (.isub, 1) := nq_d dX8_needNumber_72_g (n := 18) rfl
theorem dX8_needNumber_111 : decode cX8_needNumber 111 = .ok (.iconst 3, 1) := nq_d dX8_needNumber_72_g (n := 19) rfl
theorem dX8_needNumber_112 : decode cX8_needNumber 112 = .ok (.if_icmp .gt 12, 3) := nq_d dX8_needNumber_72_g (n := 20) rfl
theorem dX8_needNumber_115 : decode cX8_needNumber 115 = .ok (.iload_n 3, 1) := nq_d dX8_needNumber_72_g (n := 21) rfl
theorem dX8_needNumber_116 : decode cX8_needNumber 116 = .ok (.iload_n 1, 1) := nq_d dX8_needNumber_72_g (n := 22) rfl
theorem dX8_needNumber_117 : decode cX8_needNumber 117 = .ok (.iload_n 2, 1) := nq_d dX8_needNumber_72_g (n := 23) rfl
theorem dX8_needNumber_118 : decode cX8_needNumber 118 = .ok (.invokestatic 119, 3) := nq_d dX8_needNumber_72_g (n := 24) rfl
theorem dX8_needNumber_121 : decode cX8_needNumber 121 = .ok (.ifCond .ne 12, 3) := nq_d dX8_needNumber_72_g (n := 25) rfl
theorem dX8_needNumber_124 : decode cX8_needNumber 124 = .ok (.aload_n 0, 1) := nq_d dX8_needNumber_72_g (n := 26) rfl
theorem dX8_needNumber_125 : decode cX8_needNumber 125 = .ok (.iconst 2, 1) := nq_d dX8_needNumber_72_g (n := 27) rfl
theorem dX8_needNumber_126 : decode cX8_needNumber 126 = .ok (.aload_n 0, 1) := nq_d dX8_needNumber_72_g (n := 28) rfl
theorem dX8_needNumber_127 : decode cX8_needNumber 127 = .ok (.getfield 28, 3) := nq_d dX8_needNumber_72_g (n := 29) rfl
theorem dX8_needNumber_130 : decode cX8_needNumber 130 = .ok (.invokevirtual 94, 3) := nq_d dX8_needNumber_72_g (n := 30) rfl
theorem dX8_needNumber_133 : decode cX8_needNumber 133 = .ok (.iload_n 3, 1) := nq_d dX8_needNumber_72_g (n := 31) rfl
theorem dX8_needNumber_134 : decode cX8_needNumber 134 = .ok (.ireturn, 1) := nq_d dX8_needNumber_72_g (n := 32) rfl
noncomputable def dX9_init_0_l : List (Nat × Instr × Nat) := [(0, .aload_n 0, 1), (1, .invokespecial 3, 3), (4, .aload_n 0, 1), (5, .bipush 16, 2), (7, .newarray .int, 2), (9, .putfield 9, 3), (12, .aload_n 0, 1), (13, .bipush 16, 2), (15, .newarray .int, 2), (17, .putfield 15, 3), (20, .aload_n 0, 1), (21, .bipush 16, 2), (23, .newarray .int, 2), (25, .putfield 18, 3), (28, .aload_n 0, 1), (29, .bipush 68, 2), (31, .newarray .int, 2), (33, .putfield 21, 3), (36, .aload_n 0, 1), (37, .bipush 17, 2), (39, .newarray .int, 2), (41, .putfield 24, 3), (44, .aload_n 0, 1), (45, .bipush 17, 2), (47, .newarray .int, 2), (49, .putfield 27, 3), (52, .aload_n 0, 1), (53, .bipush 17, 2), (55, .newarray .int, 2), (57, .putfield 30, 3), (60, .aload_n 0, 1), (61, .bipush 7, 2), (63, .newarray .int, 2), (65, .putfield 33, 3), (68, .aload_n 0, 1), (69, .iconst 0, 1), (70, .putfield 36, 3), (73, .aload_n 0, 1), (74, .iconst 0, 1), (75, .putfield 40, 3)]
set_option maxRecDepth 100000 in
theorem dX9_init_0_g : dX9_init_0_l.all (fun x => decide (decode cX9_init x.1 = .ok x.2)) = true := by decide +kernel
theorem dX9_init_0 : decode cX9_init 0 = .ok (.aload_n 0, 1) := nq_d dX9_init_0_g (n := 0) rfl
theorem dX9_init_1 : decode cX9_init 1 = .ok (.invokespecial 3, 3) := nq_d dX9_init_0_g (n := 1) rfl
theorem dX9_init_4 : decode cX9_init 4 = .ok (.aload_n 0, 1) := nq_d dX9_init_0_g (n := 2) rfl
theorem dX9_init_5 : decode cX9_init 5 = .ok (.bipush 16, 2) := nq_d dX9_init_0_g (n := 3) rfl
theorem dX9_init_7 : decode cX9_init 7 = .ok (.newarray .int, 2) := nq_d dX9_init_0_g (n := 4) rfl
theorem dX9_init_9 : decode cX9_init 9 = .ok (.putfield 9, 3) := nq_d dX9_init_0_g (n := 5) rfl
theorem dX9_init_12 : decode cX9_init 12 = .ok (.aload_n 0, 1) := nq_d dX9_init_0_g (n := 6) rfl
theorem dX9_init_13 : decode cX9_init 13 = .ok (.bipush 16, 2) := nq_d dX9_init_0_g (n := 7) rfl
theorem dX9_init_15 : decode cX9_init 15 = .ok (.newarray .int, 2) := nq_d dX9_init_0_g (n := 8) rfl
theorem dX9_init_17 : decode cX9_init 17 = .ok (.putfield 15, 3) := nq_d dX9_init_0_g (n := 9) rfl
theorem dX9_init_20 : decode cX9_init 20 = .ok (.aload_n 0, 1) := nq_d dX9_init_0_g (n := 10) rfl
theorem dX9_init_21 : decode cX9_init 21 = .ok (.bipush 16, 2) := nq_d dX9_init_0_g (n := 11) rfl
theorem dX9_init_23 : decode cX9_init 23 = .ok (.newarray .int, 2) := nq_d dX9_init_0_g (n := 12) rfl
theorem dX9_init_25 : decode cX9_init 25 = .ok (.putfield 18, 3) := nq_d dX9_init_0_g (n := 13) rfl
theorem dX9_init_28 : decode cX9_init 28 = .ok (.aload_n 0, 1) := nq_d dX9_init_0_g (n := 14) rfl
theorem dX9_init_29 : decode cX9_init 29 = .ok (.bipush 68, 2) := nq_d dX9_init_0_g (n := 15) rfl
theorem dX9_init_31 : decode cX9_init 31 = .ok (.newarray .int, 2) := nq_d dX9_init_0_g (n := 16) rfl
theorem dX9_init_33 : decode cX9_init 33 = .ok (.putfield 21, 3) := nq_d dX9_init_0_g (n := 17) rfl
theorem dX9_init_36 : decode cX9_init 36 = .ok (.aload_n 0, 1) := nq_d dX9_init_0_g (n := 18) rfl
theorem dX9_init_37 : decode cX9_init 37 = .ok (.bipush 17, 2) := nq_d dX9_init_0_g (n := 19) rfl
theorem dX9_init_39 : decode cX9_init 39 = .ok (.newarray .int, 2) := nq_d dX9_init_0_g (n := 20) rfl
theorem dX9_init_41 : decode cX9_init 41 = .ok (.putfield 24, 3) := nq_d dX9_init_0_g (n := 21) rfl
theorem dX9_init_44 : decode cX9_init 44 = .ok (.aload_n 0, 1) := nq_d dX9_init_0_g (n := 22) rfl
theorem dX9_init_45 : decode cX9_init 45 = .ok (.bipush 17, 2) := nq_d dX9_init_0_g (n := 23) rfl
theorem dX9_init_47 : decode cX9_init 47 = .ok (.newarray .int, 2) := nq_d dX9_init_0_g (n := 24) rfl
theorem dX9_init_49 : decode cX9_init 49 = .ok (.putfield 27, 3) := nq_d dX9_init_0_g (n := 25) rfl
theorem dX9_init_52 : decode cX9_init 52 = .ok (.aload_n 0, 1) := nq_d dX9_init_0_g (n := 26) rfl
theorem dX9_init_53 : decode cX9_init 53 = .ok (.bipush 17, 2) := nq_d dX9_init_0_g (n := 27) rfl
theorem dX9_init_55 : decode cX9_init 55 = .ok (.newarray .int, 2) := nq_d dX9_init_0_g (n := 28) rfl
theorem dX9_init_57 : decode cX9_init 57 = .ok (.putfield 30, 3) := nq_d dX9_init_0_g (n := 29) rfl
theorem dX9_init_60 : decode cX9_init 60 = .ok (.aload_n 0, 1) := nq_d dX9_init_0_g (n := 30) rfl
theorem dX9_init_61 : decode cX9_init 61 = .ok (.bipush 7, 2) := nq_d dX9_init_0_g (n := 31) rfl
theorem dX9_init_63 : decode cX9_init 63 = .ok (.newarray .int, 2) := nq_d dX9_init_0_g (n := 32) rfl
theorem dX9_init_65 : decode cX9_init 65 = .ok (.putfield 33, 3) := nq_d dX9_init_0_g (n := 33) rfl
theorem dX9_init_68 : decode cX9_init 68 = .ok (.aload_n 0, 1) := nq_d dX9_init_0_g (n := 34) rfl
theorem dX9_init_69 : decode cX9_init 69 = .ok (.iconst 0, 1) := nq_d dX9_init_0_g (n := 35) rfl
theorem dX9_init_70 : decode cX9_init 70 = .ok (.putfield 36, 3) := nq_d dX9_init_0_g (n := 36) rfl
theorem dX9_init_73 : decode cX9_init 73 = .ok (.aload_n 0, 1) := nq_d dX9_init_0_g (n := 37) rfl
theorem dX9_init_74 : decode cX9_init 74 = .ok (.iconst 0, 1) := nq_d dX9_init_0_g (n := 38) rfl
theorem dX9_init_75 : decode cX9_init 75 = .ok (.putfield 40, 3) := nq_d dX9_init_0_g (n := 39) rfl
noncomputable def dX9_init_78_l : List (Nat × Instr × Nat) := [(78, .aload_n 0, 1), (79, .iconst 0, 1), (80, .putfield 43, 3), (83, .aload_n 0, 1), (84, .iconst 0, 1), (85, .putfield 46, 3), (88, .return_, 1)]
set_option maxRecDepth 100000 in
theorem dX9_init_78_g : dX9_init_78_l.all (fun x => decide (decode cX9_init x.1 = .ok x.2)) = true := by decide +kernel
theorem dX9_init_78 : decode cX9_init 78 = .ok (.aload_n 0, 1) := nq_d dX9_init_78_g (n := 0) rfl
theorem dX9_init_79 : decode cX9_init 79 = .ok (.iconst 0, 1) := nq_d dX9_init_78_g (n := 1) rfl
theorem dX9_init_80 : decode cX9_init 80 = .ok (.putfield 43, 3) := nq_d dX9_init_78_g (n := 2) rfl
theorem dX9_init_83 : decode cX9_init 83 = .ok (.aload_n 0, 1) := nq_d dX9_init_78_g (n := 3) rfl
theorem dX9_init_84 : decode cX9_init 84 = .ok (.iconst 0, 1) := nq_d dX9_init_78_g (n := 4) rfl
theorem dX9_init_85 : decode cX9_init 85 = .ok (.putfield 46, 3) := nq_d dX9_init_78_g (n := 5) rfl
theorem dX9_init_88 : decode cX9_init 88 = .ok (.return_, 1) := nq_d dX9_init_78_g (n := 6) rfl
set_option maxRecDepth 100000 in
theorem ggX9_load_X3_walkOf : GoodIn wsX9_load wsX3_walkOf := goodIn_sub (sub_c (nq_m (n := 15) rfl) (sub_c (nq_m (n := 16) rfl) (sub_c (nq_m (n := 17) rfl) (sub_c (nq_m (n := 18) rfl) (sub_c (nq_m (n := 19) rfl) (sub_c (nq_m (n := 14) rfl) (sub_c (nq_m (n := 20) rfl) (sub_c (nq_m (n := 21) rfl) (sub_c (nq_m (n := 34) rfl) (sub_c (nq_m (n := 35) rfl) (sub_c (nq_m (n := 36) rfl) (sub_c (nq_m (n := 37) rfl) (sub_c (nq_m (n := 38) rfl) (sub_c (nq_m (n := 39) rfl) (sub_c (nq_m (n := 40) rfl) sub_n))))))))))))))) (by decide +kernel)
set_option maxRecDepth 100000 in
theorem gX9_load_X3_walkOf : GoodIn wsX9_load (wsV RX9 60 RX3 yX3_walkOf wsX3_walkOf) := goodIn_app (goodIn_sub (sub_c (nq_m (n := 11) rfl) (sub_c (nq_m (n := 12) rfl) (sub_c (nq_m (n := 13) rfl) (sub_c (nq_m (n := 14) rfl) sub_n)))) (by decide +kernel)) ggX9_load_X3_walkOf
noncomputable def dX9_load_0_l : List (Nat × Instr × Nat) := [(0, .aload_n 0, 1), (1, .iconst 0, 1), (2, .putfield 36, 3), (5, .aload_n 0, 1), (6, .aload_n 3, 1), (7, .getfield 49, 3), (10, .putfield 40, 3), (13, .iconst 0, 1), (14, .istore 4, 2), (16, .iload 4, 2), (18, .aload_n 2, 1), (19, .getfield 52, 3), (22, .if_icmp .ge 79, 3), (25, .iload_n 1, 1), (26, .iload 4, 2), (28, .ishr, 1), (29, .iconst 1, 1), (30, .iand, 1), (31, .iconst 1, 1), (32, .if_icmp .ne 63, 3), (35, .aload_n 0, 1), (36, .getfield 9, 3), (39, .iload 4, 2), (41, .iconst 2, 1), (42, .aload_n 3, 1), (43, .aload_n 2, 1), (44, .getfield 57, 3), (47, .iload 4, 2), (49, .iaload, 1), (50, .invokevirtual 60, 3), (53, .imul, 1), (54, .aload_n 3, 1), (55, .getfield 64, 3), (58, .iadd, 1), (59, .iastore, 1), (60, .aload_n 0, 1), (61, .getfield 15, 3), (64, .iload 4, 2), (66, .aload_n 2, 1), (67, .getfield 66, 3)]
set_option maxRecDepth 100000 in
theorem dX9_load_0_g : dX9_load_0_l.all (fun x => decide (decode cX9_load x.1 = .ok x.2)) = true := by decide +kernel
theorem dX9_load_0 : decode cX9_load 0 = .ok (.aload_n 0, 1) := nq_d dX9_load_0_g (n := 0) rfl
theorem dX9_load_1 : decode cX9_load 1 = .ok (.iconst 0, 1) := nq_d dX9_load_0_g (n := 1) rfl
theorem dX9_load_2 : decode cX9_load 2 = .ok (.putfield 36, 3) := nq_d dX9_load_0_g (n := 2) rfl
theorem dX9_load_5 : decode cX9_load 5 = .ok (.aload_n 0, 1) := nq_d dX9_load_0_g (n := 3) rfl
theorem dX9_load_6 : decode cX9_load 6 = .ok (.aload_n 3, 1) := nq_d dX9_load_0_g (n := 4) rfl
theorem dX9_load_7 : decode cX9_load 7 = .ok (.getfield 49, 3) := nq_d dX9_load_0_g (n := 5) rfl
theorem dX9_load_10 : decode cX9_load 10 = .ok (.putfield 40, 3) := nq_d dX9_load_0_g (n := 6) rfl
theorem dX9_load_13 : decode cX9_load 13 = .ok (.iconst 0, 1) := nq_d dX9_load_0_g (n := 7) rfl
theorem dX9_load_14 : decode cX9_load 14 = .ok (.istore 4, 2) := nq_d dX9_load_0_g (n := 8) rfl
theorem dX9_load_16 : decode cX9_load 16 = .ok (.iload 4, 2) := nq_d dX9_load_0_g (n := 9) rfl
theorem dX9_load_18 : decode cX9_load 18 = .ok (.aload_n 2, 1) := nq_d dX9_load_0_g (n := 10) rfl
theorem dX9_load_19 : decode cX9_load 19 = .ok (.getfield 52, 3) := nq_d dX9_load_0_g (n := 11) rfl
theorem dX9_load_22 : decode cX9_load 22 = .ok (.if_icmp .ge 79, 3) := nq_d dX9_load_0_g (n := 12) rfl
theorem dX9_load_25 : decode cX9_load 25 = .ok (.iload_n 1, 1) := nq_d dX9_load_0_g (n := 13) rfl
theorem dX9_load_26 : decode cX9_load 26 = .ok (.iload 4, 2) := nq_d dX9_load_0_g (n := 14) rfl
theorem dX9_load_28 : decode cX9_load 28 = .ok (.ishr, 1) := nq_d dX9_load_0_g (n := 15) rfl
theorem dX9_load_29 : decode cX9_load 29 = .ok (.iconst 1, 1) := nq_d dX9_load_0_g (n := 16) rfl
theorem dX9_load_30 : decode cX9_load 30 = .ok (.iand, 1) := nq_d dX9_load_0_g (n := 17) rfl
theorem dX9_load_31 : decode cX9_load 31 = .ok (.iconst 1, 1) := nq_d dX9_load_0_g (n := 18) rfl
theorem dX9_load_32 : decode cX9_load 32 = .ok (.if_icmp .ne 63, 3) := nq_d dX9_load_0_g (n := 19) rfl
theorem dX9_load_35 : decode cX9_load 35 = .ok (.aload_n 0, 1) := nq_d dX9_load_0_g (n := 20) rfl
theorem dX9_load_36 : decode cX9_load 36 = .ok (.getfield 9, 3) := nq_d dX9_load_0_g (n := 21) rfl
theorem dX9_load_39 : decode cX9_load 39 = .ok (.iload 4, 2) := nq_d dX9_load_0_g (n := 22) rfl
theorem dX9_load_41 : decode cX9_load 41 = .ok (.iconst 2, 1) := nq_d dX9_load_0_g (n := 23) rfl
theorem dX9_load_42 : decode cX9_load 42 = .ok (.aload_n 3, 1) := nq_d dX9_load_0_g (n := 24) rfl
theorem dX9_load_43 : decode cX9_load 43 = .ok (.aload_n 2, 1) := nq_d dX9_load_0_g (n := 25) rfl
theorem dX9_load_44 : decode cX9_load 44 = .ok (.getfield 57, 3) := nq_d dX9_load_0_g (n := 26) rfl
theorem dX9_load_47 : decode cX9_load 47 = .ok (.iload 4, 2) := nq_d dX9_load_0_g (n := 27) rfl
theorem dX9_load_49 : decode cX9_load 49 = .ok (.iaload, 1) := nq_d dX9_load_0_g (n := 28) rfl
theorem dX9_load_50 : decode cX9_load 50 = .ok (.invokevirtual 60, 3) := nq_d dX9_load_0_g (n := 29) rfl
theorem dX9_load_53 : decode cX9_load 53 = .ok (.imul, 1) := nq_d dX9_load_0_g (n := 30) rfl
theorem dX9_load_54 : decode cX9_load 54 = .ok (.aload_n 3, 1) := nq_d dX9_load_0_g (n := 31) rfl
theorem dX9_load_55 : decode cX9_load 55 = .ok (.getfield 64, 3) := nq_d dX9_load_0_g (n := 32) rfl
theorem dX9_load_58 : decode cX9_load 58 = .ok (.iadd, 1) := nq_d dX9_load_0_g (n := 33) rfl
theorem dX9_load_59 : decode cX9_load 59 = .ok (.iastore, 1) := nq_d dX9_load_0_g (n := 34) rfl
theorem dX9_load_60 : decode cX9_load 60 = .ok (.aload_n 0, 1) := nq_d dX9_load_0_g (n := 35) rfl
theorem dX9_load_61 : decode cX9_load 61 = .ok (.getfield 15, 3) := nq_d dX9_load_0_g (n := 36) rfl
theorem dX9_load_64 : decode cX9_load 64 = .ok (.iload 4, 2) := nq_d dX9_load_0_g (n := 37) rfl
theorem dX9_load_66 : decode cX9_load 66 = .ok (.aload_n 2, 1) := nq_d dX9_load_0_g (n := 38) rfl
theorem dX9_load_67 : decode cX9_load 67 = .ok (.getfield 66, 3) := nq_d dX9_load_0_g (n := 39) rfl
noncomputable def dX9_load_70_l : List (Nat × Instr × Nat) := [(70, .iload 4, 2), (72, .iaload, 1), (73, .iastore, 1), (74, .aload_n 0, 1), (75, .getfield 18, 3), (78, .aload_n 0, 1), (79, .getfield 36, 3), (82, .iload 4, 2), (84, .iastore, 1), (85, .aload_n 0, 1), (86, .dup, 1), (87, .getfield 36, 3), (90, .iconst 1, 1), (91, .iadd, 1), (92, .putfield 36, 3), (95, .iinc 4 1, 3), (98, .goto (-82), 3), (101, .return_, 1)]
set_option maxRecDepth 100000 in
theorem dX9_load_70_g : dX9_load_70_l.all (fun x => decide (decode cX9_load x.1 = .ok x.2)) = true := by decide +kernel
theorem dX9_load_70 : decode cX9_load 70 = .ok (.iload 4, 2) := nq_d dX9_load_70_g (n := 0) rfl
theorem dX9_load_72 : decode cX9_load 72 = .ok (.iaload, 1) := nq_d dX9_load_70_g (n := 1) rfl
theorem dX9_load_73 : decode cX9_load 73 = .ok (.iastore, 1) := nq_d dX9_load_70_g (n := 2) rfl
theorem dX9_load_74 : decode cX9_load 74 = .ok (.aload_n 0, 1) := nq_d dX9_load_70_g (n := 3) rfl
theorem dX9_load_75 : decode cX9_load 75 = .ok (.getfield 18, 3) := nq_d dX9_load_70_g (n := 4) rfl
theorem dX9_load_78 : decode cX9_load 78 = .ok (.aload_n 0, 1) := nq_d dX9_load_70_g (n := 5) rfl
theorem dX9_load_79 : decode cX9_load 79 = .ok (.getfield 36, 3) := nq_d dX9_load_70_g (n := 6) rfl
theorem dX9_load_82 : decode cX9_load 82 = .ok (.iload 4, 2) := nq_d dX9_load_70_g (n := 7) rfl
theorem dX9_load_84 : decode cX9_load 84 = .ok (.iastore, 1) := nq_d dX9_load_70_g (n := 8) rfl
theorem dX9_load_85 : decode cX9_load 85 = .ok (.aload_n 0, 1) := nq_d dX9_load_70_g (n := 9) rfl
theorem dX9_load_86 : decode cX9_load 86 = .ok (.dup, 1) := nq_d dX9_load_70_g (n := 10) rfl
theorem dX9_load_87 : decode cX9_load 87 = .ok (.getfield 36, 3) := nq_d dX9_load_70_g (n := 11) rfl
theorem dX9_load_90 : decode cX9_load 90 = .ok (.iconst 1, 1) := nq_d dX9_load_70_g (n := 12) rfl
theorem dX9_load_91 : decode cX9_load 91 = .ok (.iadd, 1) := nq_d dX9_load_70_g (n := 13) rfl
theorem dX9_load_92 : decode cX9_load 92 = .ok (.putfield 36, 3) := nq_d dX9_load_70_g (n := 14) rfl
theorem dX9_load_95 : decode cX9_load 95 = .ok (.iinc 4 1, 3) := nq_d dX9_load_70_g (n := 15) rfl
theorem dX9_load_98 : decode cX9_load 98 = .ok (.goto (-82), 3) := nq_d dX9_load_70_g (n := 16) rfl
theorem dX9_load_101 : decode cX9_load 101 = .ok (.return_, 1) := nq_d dX9_load_70_g (n := 17) rfl
noncomputable def dX9_sumOfWaits_0_l : List (Nat × Instr × Nat) := [(0, .aload_n 0, 1), (1, .getfield 24, 3), (4, .aload_n 0, 1), (5, .getfield 36, 3), (8, .iaload, 1), (9, .ireturn, 1)]
set_option maxRecDepth 100000 in
theorem dX9_sumOfWaits_0_g : dX9_sumOfWaits_0_l.all (fun x => decide (decode cX9_sumOfWaits x.1 = .ok x.2)) = true := by decide +kernel
theorem dX9_sumOfWaits_0 : decode cX9_sumOfWaits 0 = .ok (.aload_n 0, 1) := nq_d dX9_sumOfWaits_0_g (n := 0) rfl
theorem dX9_sumOfWaits_1 : decode cX9_sumOfWaits 1 = .ok (.getfield 24, 3) := nq_d dX9_sumOfWaits_0_g (n := 1) rfl
theorem dX9_sumOfWaits_4 : decode cX9_sumOfWaits 4 = .ok (.aload_n 0, 1) := nq_d dX9_sumOfWaits_0_g (n := 2) rfl
theorem dX9_sumOfWaits_5 : decode cX9_sumOfWaits 5 = .ok (.getfield 36, 3) := nq_d dX9_sumOfWaits_0_g (n := 3) rfl
theorem dX9_sumOfWaits_8 : decode cX9_sumOfWaits 8 = .ok (.iaload, 1) := nq_d dX9_sumOfWaits_0_g (n := 4) rfl
theorem dX9_sumOfWaits_9 : decode cX9_sumOfWaits 9 = .ok (.ireturn, 1) := nq_d dX9_sumOfWaits_0_g (n := 5) rfl
noncomputable def dX9_greatestWait_0_l : List (Nat × Instr × Nat) := [(0, .aload_n 0, 1), (1, .getfield 27, 3), (4, .aload_n 0, 1), (5, .getfield 36, 3), (8, .iaload, 1), (9, .ireturn, 1)]
set_option maxRecDepth 100000 in
theorem dX9_greatestWait_0_g : dX9_greatestWait_0_l.all (fun x => decide (decode cX9_greatestWait x.1 = .ok x.2)) = true := by decide +kernel
theorem dX9_greatestWait_0 : decode cX9_greatestWait 0 = .ok (.aload_n 0, 1) := nq_d dX9_greatestWait_0_g (n := 0) rfl
theorem dX9_greatestWait_1 : decode cX9_greatestWait 1 = .ok (.getfield 27, 3) := nq_d dX9_greatestWait_0_g (n := 1) rfl
theorem dX9_greatestWait_4 : decode cX9_greatestWait 4 = .ok (.aload_n 0, 1) := nq_d dX9_greatestWait_0_g (n := 2) rfl
theorem dX9_greatestWait_5 : decode cX9_greatestWait 5 = .ok (.getfield 36, 3) := nq_d dX9_greatestWait_0_g (n := 3) rfl
theorem dX9_greatestWait_8 : decode cX9_greatestWait 8 = .ok (.iaload, 1) := nq_d dX9_greatestWait_0_g (n := 4) rfl
theorem dX9_greatestWait_9 : decode cX9_greatestWait 9 = .ok (.ireturn, 1) := nq_d dX9_greatestWait_0_g (n := 5) rfl
noncomputable def dX9_sumOfTips_0_l : List (Nat × Instr × Nat) := [(0, .aload_n 0, 1), (1, .getfield 30, 3), (4, .aload_n 0, 1), (5, .getfield 36, 3), (8, .iaload, 1), (9, .ireturn, 1)]
set_option maxRecDepth 100000 in
theorem dX9_sumOfTips_0_g : dX9_sumOfTips_0_l.all (fun x => decide (decode cX9_sumOfTips x.1 = .ok x.2)) = true := by decide +kernel
theorem dX9_sumOfTips_0 : decode cX9_sumOfTips 0 = .ok (.aload_n 0, 1) := nq_d dX9_sumOfTips_0_g (n := 0) rfl
theorem dX9_sumOfTips_1 : decode cX9_sumOfTips 1 = .ok (.getfield 30, 3) := nq_d dX9_sumOfTips_0_g (n := 1) rfl
theorem dX9_sumOfTips_4 : decode cX9_sumOfTips 4 = .ok (.aload_n 0, 1) := nq_d dX9_sumOfTips_0_g (n := 2) rfl
theorem dX9_sumOfTips_5 : decode cX9_sumOfTips 5 = .ok (.getfield 36, 3) := nq_d dX9_sumOfTips_0_g (n := 3) rfl
theorem dX9_sumOfTips_8 : decode cX9_sumOfTips 8 = .ok (.iaload, 1) := nq_d dX9_sumOfTips_0_g (n := 4) rfl
theorem dX9_sumOfTips_9 : decode cX9_sumOfTips 9 = .ok (.ireturn, 1) := nq_d dX9_sumOfTips_0_g (n := 5) rfl
noncomputable def dX9_bestMember_0_l : List (Nat × Instr × Nat) := [(0, .iload_n 1, 1), (1, .ifCond .lt 26, 3), (4, .iload_n 1, 1), (5, .aload_n 0, 1), (6, .getfield 36, 3), (9, .if_icmp .ge 18, 3), (12, .iload_n 1, 1), (13, .bipush 7, 2), (15, .if_icmp .ge 12, 3), (18, .aload_n 0, 1), (19, .getfield 33, 3), (22, .iload_n 1, 1), (23, .iaload, 1), (24, .goto 4, 3), (27, .iconst (-1), 1), (28, .ireturn, 1)]
set_option maxRecDepth 100000 in
theorem dX9_bestMember_0_g : dX9_bestMember_0_l.all (fun x => decide (decode cX9_bestMember x.1 = .ok x.2)) = true := by decide +kernel
theorem dX9_bestMember_0 : decode cX9_bestMember 0 = .ok (.iload_n 1, 1) := nq_d dX9_bestMember_0_g (n := 0) rfl
theorem dX9_bestMember_1 : decode cX9_bestMember 1 = .ok (.ifCond .lt 26, 3) := nq_d dX9_bestMember_0_g (n := 1) rfl
theorem dX9_bestMember_4 : decode cX9_bestMember 4 = .ok (.iload_n 1, 1) := nq_d dX9_bestMember_0_g (n := 2) rfl
theorem dX9_bestMember_5 : decode cX9_bestMember 5 = .ok (.aload_n 0, 1) := nq_d dX9_bestMember_0_g (n := 3) rfl
theorem dX9_bestMember_6 : decode cX9_bestMember 6 = .ok (.getfield 36, 3) := nq_d dX9_bestMember_0_g (n := 4) rfl
theorem dX9_bestMember_9 : decode cX9_bestMember 9 = .ok (.if_icmp .ge 18, 3) := nq_d dX9_bestMember_0_g (n := 5) rfl
theorem dX9_bestMember_12 : decode cX9_bestMember 12 = .ok (.iload_n 1, 1) := nq_d dX9_bestMember_0_g (n := 6) rfl
theorem dX9_bestMember_13 : decode cX9_bestMember 13 = .ok (.bipush 7, 2) := nq_d dX9_bestMember_0_g (n := 7) rfl
theorem dX9_bestMember_15 : decode cX9_bestMember 15 = .ok (.if_icmp .ge 12, 3) := nq_d dX9_bestMember_0_g (n := 8) rfl
theorem dX9_bestMember_18 : decode cX9_bestMember 18 = .ok (.aload_n 0, 1) := nq_d dX9_bestMember_0_g (n := 9) rfl
theorem dX9_bestMember_19 : decode cX9_bestMember 19 = .ok (.getfield 33, 3) := nq_d dX9_bestMember_0_g (n := 10) rfl
theorem dX9_bestMember_22 : decode cX9_bestMember 22 = .ok (.iload_n 1, 1) := nq_d dX9_bestMember_0_g (n := 11) rfl
theorem dX9_bestMember_23 : decode cX9_bestMember 23 = .ok (.iaload, 1) := nq_d dX9_bestMember_0_g (n := 12) rfl
theorem dX9_bestMember_24 : decode cX9_bestMember 24 = .ok (.goto 4, 3) := nq_d dX9_bestMember_0_g (n := 13) rfl
theorem dX9_bestMember_27 : decode cX9_bestMember 27 = .ok (.iconst (-1), 1) := nq_d dX9_bestMember_0_g (n := 14) rfl
theorem dX9_bestMember_28 : decode cX9_bestMember 28 = .ok (.ireturn, 1) := nq_d dX9_bestMember_0_g (n := 15) rfl
set_option maxRecDepth 100000 in
theorem ggX9_serveFrom_X9_serve : GoodIn wsX9_serveFrom wsX9_serve := goodIn_sub (sub_c (nq_m (n := 6) rfl) (sub_c (nq_m (n := 7) rfl) (sub_c (nq_m (n := 8) rfl) (sub_c (nq_m (n := 9) rfl) (sub_c (nq_m (n := 10) rfl) (sub_c (nq_m (n := 11) rfl) (sub_c (nq_m (n := 12) rfl) (sub_c (nq_m (n := 13) rfl) (sub_c (nq_m (n := 14) rfl) (sub_c (nq_m (n := 15) rfl) (sub_c (nq_m (n := 16) rfl) (sub_c (nq_m (n := 17) rfl) (sub_c (nq_m (n := 18) rfl) (sub_c (nq_m (n := 19) rfl) (sub_c (nq_m (n := 20) rfl) (sub_c (nq_m (n := 21) rfl) (sub_c (nq_m (n := 22) rfl) (sub_c (nq_m (n := 23) rfl) (sub_c (nq_m (n := 24) rfl) (sub_c (nq_m (n := 25) rfl) (sub_c (nq_m (n := 26) rfl) (sub_c (nq_m (n := 27) rfl) (sub_c (nq_m (n := 28) rfl) (sub_c (nq_m (n := 29) rfl) (sub_c (nq_m (n := 30) rfl) (sub_c (nq_m (n := 31) rfl) (sub_c (nq_m (n := 32) rfl) (sub_c (nq_m (n := 33) rfl) sub_n)))))))))))))))))))))))))))) (by decide +kernel)
set_option maxRecDepth 100000 in
theorem gX9_serveFrom_X9_serve : GoodIn wsX9_serveFrom (wsV RX9 67 RX9 yX9_serve wsX9_serve) := goodIn_app (goodIn_sub (sub_c (nq_m (n := 2) rfl) (sub_c (nq_m (n := 3) rfl) (sub_c (nq_m (n := 4) rfl) (sub_c (nq_m (n := 5) rfl) sub_n)))) (by decide +kernel)) ggX9_serveFrom_X9_serve
noncomputable def dX9_serveFrom_0_l : List (Nat × Instr × Nat) := [(0, .iload_n 1, 1), (1, .ifCond .lt 13, 3), (4, .iload_n 2, 1), (5, .iconst 1, 1), (6, .if_icmp .lt 8, 3), (9, .iload_n 2, 1), (10, .iconst 4, 1), (11, .if_icmp .le 4, 3), (14, .return_, 1), (15, .iload_n 1, 1), (16, .istore_n 3, 1), (17, .iload_n 3, 1), (18, .aload_n 0, 1), (19, .getfield 36, 3), (22, .if_icmp .ge 15, 3), (25, .aload_n 0, 1), (26, .iload_n 3, 1), (27, .iload_n 2, 1), (28, .invokevirtual 67, 3), (31, .iinc 3 1, 3), (34, .goto (-17), 3), (37, .return_, 1)]
set_option maxRecDepth 100000 in
theorem dX9_serveFrom_0_g : dX9_serveFrom_0_l.all (fun x => decide (decode cX9_serveFrom x.1 = .ok x.2)) = true := by decide +kernel
theorem dX9_serveFrom_0 : decode cX9_serveFrom 0 = .ok (.iload_n 1, 1) := nq_d dX9_serveFrom_0_g (n := 0) rfl
theorem dX9_serveFrom_1 : decode cX9_serveFrom 1 = .ok (.ifCond .lt 13, 3) := nq_d dX9_serveFrom_0_g (n := 1) rfl
theorem dX9_serveFrom_4 : decode cX9_serveFrom 4 = .ok (.iload_n 2, 1) := nq_d dX9_serveFrom_0_g (n := 2) rfl
theorem dX9_serveFrom_5 : decode cX9_serveFrom 5 = .ok (.iconst 1, 1) := nq_d dX9_serveFrom_0_g (n := 3) rfl
theorem dX9_serveFrom_6 : decode cX9_serveFrom 6 = .ok (.if_icmp .lt 8, 3) := nq_d dX9_serveFrom_0_g (n := 4) rfl
theorem dX9_serveFrom_9 : decode cX9_serveFrom 9 = .ok (.iload_n 2, 1) := nq_d dX9_serveFrom_0_g (n := 5) rfl
theorem dX9_serveFrom_10 : decode cX9_serveFrom 10 = .ok (.iconst 4, 1) := nq_d dX9_serveFrom_0_g (n := 6) rfl
theorem dX9_serveFrom_11 : decode cX9_serveFrom 11 = .ok (.if_icmp .le 4, 3) := nq_d dX9_serveFrom_0_g (n := 7) rfl
theorem dX9_serveFrom_14 : decode cX9_serveFrom 14 = .ok (.return_, 1) := nq_d dX9_serveFrom_0_g (n := 8) rfl
theorem dX9_serveFrom_15 : decode cX9_serveFrom 15 = .ok (.iload_n 1, 1) := nq_d dX9_serveFrom_0_g (n := 9) rfl
theorem dX9_serveFrom_16 : decode cX9_serveFrom 16 = .ok (.istore_n 3, 1) := nq_d dX9_serveFrom_0_g (n := 10) rfl
theorem dX9_serveFrom_17 : decode cX9_serveFrom 17 = .ok (.iload_n 3, 1) := nq_d dX9_serveFrom_0_g (n := 11) rfl
theorem dX9_serveFrom_18 : decode cX9_serveFrom 18 = .ok (.aload_n 0, 1) := nq_d dX9_serveFrom_0_g (n := 12) rfl
theorem dX9_serveFrom_19 : decode cX9_serveFrom 19 = .ok (.getfield 36, 3) := nq_d dX9_serveFrom_0_g (n := 13) rfl
theorem dX9_serveFrom_22 : decode cX9_serveFrom 22 = .ok (.if_icmp .ge 15, 3) := nq_d dX9_serveFrom_0_g (n := 14) rfl
theorem dX9_serveFrom_25 : decode cX9_serveFrom 25 = .ok (.aload_n 0, 1) := nq_d dX9_serveFrom_0_g (n := 15) rfl
theorem dX9_serveFrom_26 : decode cX9_serveFrom 26 = .ok (.iload_n 3, 1) := nq_d dX9_serveFrom_0_g (n := 16) rfl
theorem dX9_serveFrom_27 : decode cX9_serveFrom 27 = .ok (.iload_n 2, 1) := nq_d dX9_serveFrom_0_g (n := 17) rfl
theorem dX9_serveFrom_28 : decode cX9_serveFrom 28 = .ok (.invokevirtual 67, 3) := nq_d dX9_serveFrom_0_g (n := 18) rfl
theorem dX9_serveFrom_31 : decode cX9_serveFrom 31 = .ok (.iinc 3 1, 3) := nq_d dX9_serveFrom_0_g (n := 19) rfl
theorem dX9_serveFrom_34 : decode cX9_serveFrom 34 = .ok (.goto (-17), 3) := nq_d dX9_serveFrom_0_g (n := 20) rfl
theorem dX9_serveFrom_37 : decode cX9_serveFrom 37 = .ok (.return_, 1) := nq_d dX9_serveFrom_0_g (n := 21) rfl
set_option maxRecDepth 100000 in
theorem ggX9_serve_X10_within : GoodIn wsX9_serve wsX10_within := goodIn_sub (sub_c (nq_m (n := 15) rfl) sub_n) (by decide +kernel)
set_option maxRecDepth 100000 in
theorem gX9_serve_X10_within_n71 : GoodIn wsX9_serve (wsX10_within) := ggX9_serve_X10_within
noncomputable def dX9_serve_0_l : List (Nat × Instr × Nat) := [(0, .iload_n 1, 1), (1, .iconst 4, 1), (2, .imul, 1), (3, .istore_n 3, 1), (4, .iconst 0, 1), (5, .istore 4, 2), (7, .iconst 0, 1), (8, .istore 5, 2), (10, .iload 5, 2), (12, .iload_n 2, 1), (13, .if_icmp .ge 54, 3), (16, .aload_n 0, 1), (17, .getfield 21, 3), (20, .iload_n 3, 1), (21, .iload 5, 2), (23, .iadd, 1), (24, .iaload, 1), (25, .aload_n 0, 1), (26, .getfield 21, 3), (29, .iload_n 3, 1), (30, .iload 4, 2), (32, .iadd, 1), (33, .iaload, 1), (34, .if_icmp .ge 7, 3), (37, .iload 5, 2), (39, .istore 4, 2), (41, .aload_n 0, 1), (42, .getfield 21, 3), (45, .iload_n 3, 1), (46, .iconst 4, 1), (47, .iadd, 1), (48, .iload 5, 2), (50, .iadd, 1), (51, .aload_n 0, 1), (52, .getfield 21, 3), (55, .iload_n 3, 1), (56, .iload 5, 2), (58, .iadd, 1), (59, .iaload, 1), (60, .iastore, 1)]
set_option maxRecDepth 100000 in
theorem dX9_serve_0_g : dX9_serve_0_l.all (fun x => decide (decode cX9_serve x.1 = .ok x.2)) = true := by decide +kernel
theorem dX9_serve_0 : decode cX9_serve 0 = .ok (.iload_n 1, 1) := nq_d dX9_serve_0_g (n := 0) rfl
theorem dX9_serve_1 : decode cX9_serve 1 = .ok (.iconst 4, 1) := nq_d dX9_serve_0_g (n := 1) rfl
theorem dX9_serve_2 : decode cX9_serve 2 = .ok (.imul, 1) := nq_d dX9_serve_0_g (n := 2) rfl
theorem dX9_serve_3 : decode cX9_serve 3 = .ok (.istore_n 3, 1) := nq_d dX9_serve_0_g (n := 3) rfl
theorem dX9_serve_4 : decode cX9_serve 4 = .ok (.iconst 0, 1) := nq_d dX9_serve_0_g (n := 4) rfl
theorem dX9_serve_5 : decode cX9_serve 5 = .ok (.istore 4, 2) := nq_d dX9_serve_0_g (n := 5) rfl
theorem dX9_serve_7 : decode cX9_serve 7 = .ok (.iconst 0, 1) := nq_d dX9_serve_0_g (n := 6) rfl
theorem dX9_serve_8 : decode cX9_serve 8 = .ok (.istore 5, 2) := nq_d dX9_serve_0_g (n := 7) rfl
theorem dX9_serve_10 : decode cX9_serve 10 = .ok (.iload 5, 2) := nq_d dX9_serve_0_g (n := 8) rfl
theorem dX9_serve_12 : decode cX9_serve 12 = .ok (.iload_n 2, 1) := nq_d dX9_serve_0_g (n := 9) rfl
theorem dX9_serve_13 : decode cX9_serve 13 = .ok (.if_icmp .ge 54, 3) := nq_d dX9_serve_0_g (n := 10) rfl
theorem dX9_serve_16 : decode cX9_serve 16 = .ok (.aload_n 0, 1) := nq_d dX9_serve_0_g (n := 11) rfl
theorem dX9_serve_17 : decode cX9_serve 17 = .ok (.getfield 21, 3) := nq_d dX9_serve_0_g (n := 12) rfl
theorem dX9_serve_20 : decode cX9_serve 20 = .ok (.iload_n 3, 1) := nq_d dX9_serve_0_g (n := 13) rfl
theorem dX9_serve_21 : decode cX9_serve 21 = .ok (.iload 5, 2) := nq_d dX9_serve_0_g (n := 14) rfl
theorem dX9_serve_23 : decode cX9_serve 23 = .ok (.iadd, 1) := nq_d dX9_serve_0_g (n := 15) rfl
theorem dX9_serve_24 : decode cX9_serve 24 = .ok (.iaload, 1) := nq_d dX9_serve_0_g (n := 16) rfl
theorem dX9_serve_25 : decode cX9_serve 25 = .ok (.aload_n 0, 1) := nq_d dX9_serve_0_g (n := 17) rfl
theorem dX9_serve_26 : decode cX9_serve 26 = .ok (.getfield 21, 3) := nq_d dX9_serve_0_g (n := 18) rfl
theorem dX9_serve_29 : decode cX9_serve 29 = .ok (.iload_n 3, 1) := nq_d dX9_serve_0_g (n := 19) rfl
theorem dX9_serve_30 : decode cX9_serve 30 = .ok (.iload 4, 2) := nq_d dX9_serve_0_g (n := 20) rfl
theorem dX9_serve_32 : decode cX9_serve 32 = .ok (.iadd, 1) := nq_d dX9_serve_0_g (n := 21) rfl
theorem dX9_serve_33 : decode cX9_serve 33 = .ok (.iaload, 1) := nq_d dX9_serve_0_g (n := 22) rfl
theorem dX9_serve_34 : decode cX9_serve 34 = .ok (.if_icmp .ge 7, 3) := nq_d dX9_serve_0_g (n := 23) rfl
theorem dX9_serve_37 : decode cX9_serve 37 = .ok (.iload 5, 2) := nq_d dX9_serve_0_g (n := 24) rfl
theorem dX9_serve_39 : decode cX9_serve 39 = .ok (.istore 4, 2) := nq_d dX9_serve_0_g (n := 25) rfl
theorem dX9_serve_41 : decode cX9_serve 41 = .ok (.aload_n 0, 1) := nq_d dX9_serve_0_g (n := 26) rfl
theorem dX9_serve_42 : decode cX9_serve 42 = .ok (.getfield 21, 3) := nq_d dX9_serve_0_g (n := 27) rfl
theorem dX9_serve_45 : decode cX9_serve 45 = .ok (.iload_n 3, 1) := nq_d dX9_serve_0_g (n := 28) rfl
theorem dX9_serve_46 : decode cX9_serve 46 = .ok (.iconst 4, 1) := nq_d dX9_serve_0_g (n := 29) rfl
theorem dX9_serve_47 : decode cX9_serve 47 = .ok (.iadd, 1) := nq_d dX9_serve_0_g (n := 30) rfl
theorem dX9_serve_48 : decode cX9_serve 48 = .ok (.iload 5, 2) := nq_d dX9_serve_0_g (n := 31) rfl
theorem dX9_serve_50 : decode cX9_serve 50 = .ok (.iadd, 1) := nq_d dX9_serve_0_g (n := 32) rfl
theorem dX9_serve_51 : decode cX9_serve 51 = .ok (.aload_n 0, 1) := nq_d dX9_serve_0_g (n := 33) rfl
theorem dX9_serve_52 : decode cX9_serve 52 = .ok (.getfield 21, 3) := nq_d dX9_serve_0_g (n := 34) rfl
theorem dX9_serve_55 : decode cX9_serve 55 = .ok (.iload_n 3, 1) := nq_d dX9_serve_0_g (n := 35) rfl
theorem dX9_serve_56 : decode cX9_serve 56 = .ok (.iload 5, 2) := nq_d dX9_serve_0_g (n := 36) rfl
theorem dX9_serve_58 : decode cX9_serve 58 = .ok (.iadd, 1) := nq_d dX9_serve_0_g (n := 37) rfl
theorem dX9_serve_59 : decode cX9_serve 59 = .ok (.iaload, 1) := nq_d dX9_serve_0_g (n := 38) rfl
theorem dX9_serve_60 : decode cX9_serve 60 = .ok (.iastore, 1) := nq_d dX9_serve_0_g (n := 39) rfl
noncomputable def dX9_serve_61_l : List (Nat × Instr × Nat) := [(61, .iinc 5 1, 3), (64, .goto (-54), 3), (67, .aload_n 0, 1), (68, .getfield 18, 3), (71, .iload_n 1, 1), (72, .iaload, 1), (73, .istore 5, 2), (75, .iload 5, 2), (77, .iconst 0, 1), (78, .bipush 15, 2), (80, .invokestatic 71, 3), (83, .ifCond .ne 4, 3), (86, .return_, 1), (87, .aload_n 0, 1), (88, .getfield 21, 3), (91, .iload_n 3, 1), (92, .iload 4, 2), (94, .iadd, 1), (95, .iaload, 1), (96, .aload_n 0, 1), (97, .getfield 9, 3), (100, .iload 5, 2), (102, .iaload, 1), (103, .iadd, 1), (104, .istore 6, 2), (106, .aload_n 0, 1), (107, .getfield 21, 3), (110, .iload_n 3, 1), (111, .iconst 4, 1), (112, .iadd, 1), (113, .iload 4, 2), (115, .iadd, 1), (116, .iload 6, 2), (118, .iastore, 1), (119, .aload_n 0, 1), (120, .getfield 24, 3), (123, .iload_n 1, 1), (124, .iconst 1, 1), (125, .iadd, 1), (126, .aload_n 0, 1)]
set_option maxRecDepth 100000 in
theorem dX9_serve_61_g : dX9_serve_61_l.all (fun x => decide (decode cX9_serve x.1 = .ok x.2)) = true := by decide +kernel
theorem dX9_serve_61 : decode cX9_serve 61 = .ok (.iinc 5 1, 3) := nq_d dX9_serve_61_g (n := 0) rfl
theorem dX9_serve_64 : decode cX9_serve 64 = .ok (.goto (-54), 3) := nq_d dX9_serve_61_g (n := 1) rfl
theorem dX9_serve_67 : decode cX9_serve 67 = .ok (.aload_n 0, 1) := nq_d dX9_serve_61_g (n := 2) rfl
theorem dX9_serve_68 : decode cX9_serve 68 = .ok (.getfield 18, 3) := nq_d dX9_serve_61_g (n := 3) rfl
theorem dX9_serve_71 : decode cX9_serve 71 = .ok (.iload_n 1, 1) := nq_d dX9_serve_61_g (n := 4) rfl
theorem dX9_serve_72 : decode cX9_serve 72 = .ok (.iaload, 1) := nq_d dX9_serve_61_g (n := 5) rfl
theorem dX9_serve_73 : decode cX9_serve 73 = .ok (.istore 5, 2) := nq_d dX9_serve_61_g (n := 6) rfl
theorem dX9_serve_75 : decode cX9_serve 75 = .ok (.iload 5, 2) := nq_d dX9_serve_61_g (n := 7) rfl
theorem dX9_serve_77 : decode cX9_serve 77 = .ok (.iconst 0, 1) := nq_d dX9_serve_61_g (n := 8) rfl
theorem dX9_serve_78 : decode cX9_serve 78 = .ok (.bipush 15, 2) := nq_d dX9_serve_61_g (n := 9) rfl
theorem dX9_serve_80 : decode cX9_serve 80 = .ok (.invokestatic 71, 3) := nq_d dX9_serve_61_g (n := 10) rfl
theorem dX9_serve_83 : decode cX9_serve 83 = .ok (.ifCond .ne 4, 3) := nq_d dX9_serve_61_g (n := 11) rfl
theorem dX9_serve_86 : decode cX9_serve 86 = .ok (.return_, 1) := nq_d dX9_serve_61_g (n := 12) rfl
theorem dX9_serve_87 : decode cX9_serve 87 = .ok (.aload_n 0, 1) := nq_d dX9_serve_61_g (n := 13) rfl
theorem dX9_serve_88 : decode cX9_serve 88 = .ok (.getfield 21, 3) := nq_d dX9_serve_61_g (n := 14) rfl
theorem dX9_serve_91 : decode cX9_serve 91 = .ok (.iload_n 3, 1) := nq_d dX9_serve_61_g (n := 15) rfl
theorem dX9_serve_92 : decode cX9_serve 92 = .ok (.iload 4, 2) := nq_d dX9_serve_61_g (n := 16) rfl
theorem dX9_serve_94 : decode cX9_serve 94 = .ok (.iadd, 1) := nq_d dX9_serve_61_g (n := 17) rfl
theorem dX9_serve_95 : decode cX9_serve 95 = .ok (.iaload, 1) := nq_d dX9_serve_61_g (n := 18) rfl
theorem dX9_serve_96 : decode cX9_serve 96 = .ok (.aload_n 0, 1) := nq_d dX9_serve_61_g (n := 19) rfl
theorem dX9_serve_97 : decode cX9_serve 97 = .ok (.getfield 9, 3) := nq_d dX9_serve_61_g (n := 20) rfl
theorem dX9_serve_100 : decode cX9_serve 100 = .ok (.iload 5, 2) := nq_d dX9_serve_61_g (n := 21) rfl
theorem dX9_serve_102 : decode cX9_serve 102 = .ok (.iaload, 1) := nq_d dX9_serve_61_g (n := 22) rfl
theorem dX9_serve_103 : decode cX9_serve 103 = .ok (.iadd, 1) := nq_d dX9_serve_61_g (n := 23) rfl
theorem dX9_serve_104 : decode cX9_serve 104 = .ok (.istore 6, 2) := nq_d dX9_serve_61_g (n := 24) rfl
theorem dX9_serve_106 : decode cX9_serve 106 = .ok (.aload_n 0, 1) := nq_d dX9_serve_61_g (n := 25) rfl
theorem dX9_serve_107 : decode cX9_serve 107 = .ok (.getfield 21, 3) := nq_d dX9_serve_61_g (n := 26) rfl
theorem dX9_serve_110 : decode cX9_serve 110 = .ok (.iload_n 3, 1) := nq_d dX9_serve_61_g (n := 27) rfl
theorem dX9_serve_111 : decode cX9_serve 111 = .ok (.iconst 4, 1) := nq_d dX9_serve_61_g (n := 28) rfl
theorem dX9_serve_112 : decode cX9_serve 112 = .ok (.iadd, 1) := nq_d dX9_serve_61_g (n := 29) rfl
theorem dX9_serve_113 : decode cX9_serve 113 = .ok (.iload 4, 2) := nq_d dX9_serve_61_g (n := 30) rfl
theorem dX9_serve_115 : decode cX9_serve 115 = .ok (.iadd, 1) := nq_d dX9_serve_61_g (n := 31) rfl
theorem dX9_serve_116 : decode cX9_serve 116 = .ok (.iload 6, 2) := nq_d dX9_serve_61_g (n := 32) rfl
theorem dX9_serve_118 : decode cX9_serve 118 = .ok (.iastore, 1) := nq_d dX9_serve_61_g (n := 33) rfl
theorem dX9_serve_119 : decode cX9_serve 119 = .ok (.aload_n 0, 1) := nq_d dX9_serve_61_g (n := 34) rfl
theorem dX9_serve_120 : decode cX9_serve 120 = .ok (.getfield 24, 3) := nq_d dX9_serve_61_g (n := 35) rfl
theorem dX9_serve_123 : decode cX9_serve 123 = .ok (.iload_n 1, 1) := nq_d dX9_serve_61_g (n := 36) rfl
theorem dX9_serve_124 : decode cX9_serve 124 = .ok (.iconst 1, 1) := nq_d dX9_serve_61_g (n := 37) rfl
theorem dX9_serve_125 : decode cX9_serve 125 = .ok (.iadd, 1) := nq_d dX9_serve_61_g (n := 38) rfl
theorem dX9_serve_126 : decode cX9_serve 126 = .ok (.aload_n 0, 1) := nq_d dX9_serve_61_g (n := 39) rfl
noncomputable def dX9_serve_127_l : List (Nat × Instr × Nat) := [(127, .getfield 24, 3), (130, .iload_n 1, 1), (131, .iaload, 1), (132, .iload 6, 2), (134, .iadd, 1), (135, .iastore, 1), (136, .aload_n 0, 1), (137, .getfield 27, 3), (140, .iload_n 1, 1), (141, .iconst 1, 1), (142, .iadd, 1), (143, .aload_n 0, 1), (144, .getfield 27, 3), (147, .iload_n 1, 1), (148, .iaload, 1), (149, .iload 6, 2), (151, .invokestatic 75, 3), (154, .iastore, 1), (155, .aload_n 0, 1), (156, .getfield 30, 3), (159, .iload_n 1, 1), (160, .iconst 1, 1), (161, .iadd, 1), (162, .aload_n 0, 1), (163, .getfield 30, 3), (166, .iload_n 1, 1), (167, .iaload, 1), (168, .iconst 0, 1), (169, .aload_n 0, 1), (170, .getfield 15, 3), (173, .iload 5, 2), (175, .iaload, 1), (176, .aload_n 0, 1), (177, .getfield 40, 3), (180, .iload 6, 2), (182, .imul, 1), (183, .bipush 10, 2), (185, .idiv, 1), (186, .isub, 1), (187, .invokestatic 75, 3)]
set_option maxRecDepth 100000 in
theorem dX9_serve_127_g : dX9_serve_127_l.all (fun x => decide (decode cX9_serve x.1 = .ok x.2)) = true := by decide +kernel
theorem dX9_serve_127 : decode cX9_serve 127 = .ok (.getfield 24, 3) := nq_d dX9_serve_127_g (n := 0) rfl
theorem dX9_serve_130 : decode cX9_serve 130 = .ok (.iload_n 1, 1) := nq_d dX9_serve_127_g (n := 1) rfl
theorem dX9_serve_131 : decode cX9_serve 131 = .ok (.iaload, 1) := nq_d dX9_serve_127_g (n := 2) rfl
theorem dX9_serve_132 : decode cX9_serve 132 = .ok (.iload 6, 2) := nq_d dX9_serve_127_g (n := 3) rfl
theorem dX9_serve_134 : decode cX9_serve 134 = .ok (.iadd, 1) := nq_d dX9_serve_127_g (n := 4) rfl
theorem dX9_serve_135 : decode cX9_serve 135 = .ok (.iastore, 1) := nq_d dX9_serve_127_g (n := 5) rfl
theorem dX9_serve_136 : decode cX9_serve 136 = .ok (.aload_n 0, 1) := nq_d dX9_serve_127_g (n := 6) rfl
theorem dX9_serve_137 : decode cX9_serve 137 = .ok (.getfield 27, 3) := nq_d dX9_serve_127_g (n := 7) rfl
theorem dX9_serve_140 : decode cX9_serve 140 = .ok (.iload_n 1, 1) := nq_d dX9_serve_127_g (n := 8) rfl
theorem dX9_serve_141 : decode cX9_serve 141 = .ok (.iconst 1, 1) := nq_d dX9_serve_127_g (n := 9) rfl
theorem dX9_serve_142 : decode cX9_serve 142 = .ok (.iadd, 1) := nq_d dX9_serve_127_g (n := 10) rfl
theorem dX9_serve_143 : decode cX9_serve 143 = .ok (.aload_n 0, 1) := nq_d dX9_serve_127_g (n := 11) rfl
theorem dX9_serve_144 : decode cX9_serve 144 = .ok (.getfield 27, 3) := nq_d dX9_serve_127_g (n := 12) rfl
theorem dX9_serve_147 : decode cX9_serve 147 = .ok (.iload_n 1, 1) := nq_d dX9_serve_127_g (n := 13) rfl
theorem dX9_serve_148 : decode cX9_serve 148 = .ok (.iaload, 1) := nq_d dX9_serve_127_g (n := 14) rfl
theorem dX9_serve_149 : decode cX9_serve 149 = .ok (.iload 6, 2) := nq_d dX9_serve_127_g (n := 15) rfl
theorem dX9_serve_151 : decode cX9_serve 151 = .ok (.invokestatic 75, 3) := nq_d dX9_serve_127_g (n := 16) rfl
theorem dX9_serve_154 : decode cX9_serve 154 = .ok (.iastore, 1) := nq_d dX9_serve_127_g (n := 17) rfl
theorem dX9_serve_155 : decode cX9_serve 155 = .ok (.aload_n 0, 1) := nq_d dX9_serve_127_g (n := 18) rfl
theorem dX9_serve_156 : decode cX9_serve 156 = .ok (.getfield 30, 3) := nq_d dX9_serve_127_g (n := 19) rfl
theorem dX9_serve_159 : decode cX9_serve 159 = .ok (.iload_n 1, 1) := nq_d dX9_serve_127_g (n := 20) rfl
theorem dX9_serve_160 : decode cX9_serve 160 = .ok (.iconst 1, 1) := nq_d dX9_serve_127_g (n := 21) rfl
theorem dX9_serve_161 : decode cX9_serve 161 = .ok (.iadd, 1) := nq_d dX9_serve_127_g (n := 22) rfl
theorem dX9_serve_162 : decode cX9_serve 162 = .ok (.aload_n 0, 1) := nq_d dX9_serve_127_g (n := 23) rfl
theorem dX9_serve_163 : decode cX9_serve 163 = .ok (.getfield 30, 3) := nq_d dX9_serve_127_g (n := 24) rfl
theorem dX9_serve_166 : decode cX9_serve 166 = .ok (.iload_n 1, 1) := nq_d dX9_serve_127_g (n := 25) rfl
theorem dX9_serve_167 : decode cX9_serve 167 = .ok (.iaload, 1) := nq_d dX9_serve_127_g (n := 26) rfl
theorem dX9_serve_168 : decode cX9_serve 168 = .ok (.iconst 0, 1) := nq_d dX9_serve_127_g (n := 27) rfl
theorem dX9_serve_169 : decode cX9_serve 169 = .ok (.aload_n 0, 1) := nq_d dX9_serve_127_g (n := 28) rfl
theorem dX9_serve_170 : decode cX9_serve 170 = .ok (.getfield 15, 3) := nq_d dX9_serve_127_g (n := 29) rfl
theorem dX9_serve_173 : decode cX9_serve 173 = .ok (.iload 5, 2) := nq_d dX9_serve_127_g (n := 30) rfl
theorem dX9_serve_175 : decode cX9_serve 175 = .ok (.iaload, 1) := nq_d dX9_serve_127_g (n := 31) rfl
theorem dX9_serve_176 : decode cX9_serve 176 = .ok (.aload_n 0, 1) := nq_d dX9_serve_127_g (n := 32) rfl
theorem dX9_serve_177 : decode cX9_serve 177 = .ok (.getfield 40, 3) := nq_d dX9_serve_127_g (n := 33) rfl
theorem dX9_serve_180 : decode cX9_serve 180 = .ok (.iload 6, 2) := nq_d dX9_serve_127_g (n := 34) rfl
theorem dX9_serve_182 : decode cX9_serve 182 = .ok (.imul, 1) := nq_d dX9_serve_127_g (n := 35) rfl
theorem dX9_serve_183 : decode cX9_serve 183 = .ok (.bipush 10, 2) := nq_d dX9_serve_127_g (n := 36) rfl
theorem dX9_serve_185 : decode cX9_serve 185 = .ok (.idiv, 1) := nq_d dX9_serve_127_g (n := 37) rfl
theorem dX9_serve_186 : decode cX9_serve 186 = .ok (.isub, 1) := nq_d dX9_serve_127_g (n := 38) rfl
theorem dX9_serve_187 : decode cX9_serve 187 = .ok (.invokestatic 75, 3) := nq_d dX9_serve_127_g (n := 39) rfl
noncomputable def dX9_serve_190_l : List (Nat × Instr × Nat) := [(190, .iadd, 1), (191, .iastore, 1), (192, .return_, 1)]
set_option maxRecDepth 100000 in
theorem dX9_serve_190_g : dX9_serve_190_l.all (fun x => decide (decode cX9_serve x.1 = .ok x.2)) = true := by decide +kernel
theorem dX9_serve_190 : decode cX9_serve 190 = .ok (.iadd, 1) := nq_d dX9_serve_190_g (n := 0) rfl
theorem dX9_serve_191 : decode cX9_serve 191 = .ok (.iastore, 1) := nq_d dX9_serve_190_g (n := 1) rfl
theorem dX9_serve_192 : decode cX9_serve 192 = .ok (.return_, 1) := nq_d dX9_serve_190_g (n := 2) rfl
set_option maxRecDepth 100000 in
theorem ggX9_findBest_X9_serveFrom : GoodIn wsX9_findBest wsX9_serveFrom := goodIn_sub (sub_c (nq_m (n := 7) rfl) (sub_c (nq_m (n := 8) rfl) (sub_c (nq_m (n := 9) rfl) (sub_c (nq_m (n := 10) rfl) (sub_c (nq_m (n := 11) rfl) (sub_c (nq_m (n := 6) rfl) (sub_c (nq_m (n := 12) rfl) (sub_c (nq_m (n := 13) rfl) (sub_c (nq_m (n := 14) rfl) (sub_c (nq_m (n := 15) rfl) (sub_c (nq_m (n := 16) rfl) (sub_c (nq_m (n := 17) rfl) (sub_c (nq_m (n := 18) rfl) (sub_c (nq_m (n := 19) rfl) (sub_c (nq_m (n := 20) rfl) (sub_c (nq_m (n := 21) rfl) (sub_c (nq_m (n := 22) rfl) (sub_c (nq_m (n := 23) rfl) (sub_c (nq_m (n := 24) rfl) (sub_c (nq_m (n := 25) rfl) (sub_c (nq_m (n := 26) rfl) (sub_c (nq_m (n := 27) rfl) (sub_c (nq_m (n := 49) rfl) (sub_c (nq_m (n := 50) rfl) (sub_c (nq_m (n := 51) rfl) (sub_c (nq_m (n := 52) rfl) (sub_c (nq_m (n := 53) rfl) (sub_c (nq_m (n := 54) rfl) (sub_c (nq_m (n := 55) rfl) (sub_c (nq_m (n := 56) rfl) (sub_c (nq_m (n := 57) rfl) (sub_c (nq_m (n := 58) rfl) (sub_c (nq_m (n := 59) rfl) (sub_c (nq_m (n := 60) rfl) sub_n)))))))))))))))))))))))))))))))))) (by decide +kernel)
set_option maxRecDepth 100000 in
theorem gX9_findBest_X9_serveFrom : GoodIn wsX9_findBest (wsV RX9 81 RX9 yX9_serveFrom wsX9_serveFrom) := goodIn_app (goodIn_sub (sub_c (nq_m (n := 3) rfl) (sub_c (nq_m (n := 4) rfl) (sub_c (nq_m (n := 5) rfl) (sub_c (nq_m (n := 6) rfl) sub_n)))) (by decide +kernel)) ggX9_findBest_X9_serveFrom
set_option maxRecDepth 100000 in
theorem ggX9_findBest_X9_keepAsBest : GoodIn wsX9_findBest wsX9_keepAsBest := goodIn_sub (sub_c (nq_m (n := 31) rfl) (sub_c (nq_m (n := 1) rfl) (sub_c (nq_m (n := 2) rfl) (sub_c (nq_m (n := 8) rfl) (sub_c (nq_m (n := 32) rfl) (sub_c (nq_m (n := 14) rfl) (sub_c (nq_m (n := 33) rfl) (sub_c (nq_m (n := 34) rfl) (sub_c (nq_m (n := 35) rfl) (sub_c (nq_m (n := 6) rfl) (sub_c (nq_m (n := 36) rfl) (sub_c (nq_m (n := 22) rfl) (sub_c (nq_m (n := 37) rfl) (sub_c (nq_m (n := 38) rfl) (sub_c (nq_m (n := 39) rfl) (sub_c (nq_m (n := 40) rfl) (sub_c (nq_m (n := 16) rfl) (sub_c (nq_m (n := 49) rfl) (sub_c (nq_m (n := 50) rfl) (sub_c (nq_m (n := 51) rfl) (sub_c (nq_m (n := 52) rfl) (sub_c (nq_m (n := 53) rfl) (sub_c (nq_m (n := 54) rfl) (sub_c (nq_m (n := 55) rfl) (sub_c (nq_m (n := 56) rfl) (sub_c (nq_m (n := 57) rfl) (sub_c (nq_m (n := 58) rfl) (sub_c (nq_m (n := 59) rfl) (sub_c (nq_m (n := 60) rfl) sub_n))))))))))))))))))))))))))))) (by decide +kernel)
set_option maxRecDepth 100000 in
theorem gX9_findBest_X9_keepAsBest : GoodIn wsX9_findBest (wsV RX9 84 RX9 yX9_keepAsBest wsX9_keepAsBest) := goodIn_app (goodIn_sub (sub_c (nq_m (n := 28) rfl) (sub_c (nq_m (n := 29) rfl) (sub_c (nq_m (n := 30) rfl) (sub_c (nq_m (n := 6) rfl) sub_n)))) (by decide +kernel)) ggX9_findBest_X9_keepAsBest
set_option maxRecDepth 100000 in
theorem ggX9_findBest_X9_toNextRow : GoodIn wsX9_findBest wsX9_toNextRow := goodIn_sub (sub_c (nq_m (n := 44) rfl) (sub_c (nq_m (n := 8) rfl) (sub_c (nq_m (n := 14) rfl) (sub_c (nq_m (n := 45) rfl) (sub_c (nq_m (n := 46) rfl) (sub_c (nq_m (n := 47) rfl) (sub_c (nq_m (n := 6) rfl) (sub_c (nq_m (n := 48) rfl) (sub_c (nq_m (n := 25) rfl) (sub_c (nq_m (n := 26) rfl) (sub_c (nq_m (n := 27) rfl) (sub_c (nq_m (n := 49) rfl) (sub_c (nq_m (n := 50) rfl) (sub_c (nq_m (n := 51) rfl) (sub_c (nq_m (n := 52) rfl) (sub_c (nq_m (n := 53) rfl) (sub_c (nq_m (n := 54) rfl) (sub_c (nq_m (n := 55) rfl) (sub_c (nq_m (n := 56) rfl) (sub_c (nq_m (n := 57) rfl) (sub_c (nq_m (n := 58) rfl) (sub_c (nq_m (n := 59) rfl) (sub_c (nq_m (n := 60) rfl) sub_n))))))))))))))))))))))) (by decide +kernel)
set_option maxRecDepth 100000 in
theorem gX9_findBest_X9_toNextRow : GoodIn wsX9_findBest (wsV RX9 87 RX9 yX9_toNextRow wsX9_toNextRow) := goodIn_app (goodIn_sub (sub_c (nq_m (n := 41) rfl) (sub_c (nq_m (n := 42) rfl) (sub_c (nq_m (n := 43) rfl) (sub_c (nq_m (n := 6) rfl) sub_n)))) (by decide +kernel)) ggX9_findBest_X9_toNextRow
set_option maxRecDepth 100000 in
theorem ggX9_findBest_X9_sumOfTips : GoodIn wsX9_findBest wsX9_sumOfTips := goodIn_sub (sub_c (nq_m (n := 36) rfl) (sub_c (nq_m (n := 22) rfl) (sub_c (nq_m (n := 8) rfl) (sub_c (nq_m (n := 49) rfl) (sub_c (nq_m (n := 50) rfl) (sub_c (nq_m (n := 51) rfl) (sub_c (nq_m (n := 52) rfl) (sub_c (nq_m (n := 53) rfl) (sub_c (nq_m (n := 54) rfl) (sub_c (nq_m (n := 55) rfl) (sub_c (nq_m (n := 56) rfl) (sub_c (nq_m (n := 57) rfl) (sub_c (nq_m (n := 58) rfl) (sub_c (nq_m (n := 59) rfl) (sub_c (nq_m (n := 60) rfl) sub_n))))))))))))))) (by decide +kernel)
set_option maxRecDepth 100000 in
theorem gX9_findBest_X9_sumOfTips : GoodIn wsX9_findBest (wsV RX9 91 RX9 yX9_sumOfTips wsX9_sumOfTips) := goodIn_app (goodIn_sub (sub_c (nq_m (n := 33) rfl) (sub_c (nq_m (n := 34) rfl) (sub_c (nq_m (n := 35) rfl) (sub_c (nq_m (n := 6) rfl) sub_n)))) (by decide +kernel)) ggX9_findBest_X9_sumOfTips
set_option maxRecDepth 100000 in
theorem ggX9_findBest_X9_sumOfWaits : GoodIn wsX9_findBest wsX9_sumOfWaits := goodIn_sub (sub_c (nq_m (n := 40) rfl) (sub_c (nq_m (n := 16) rfl) (sub_c (nq_m (n := 8) rfl) (sub_c (nq_m (n := 49) rfl) (sub_c (nq_m (n := 50) rfl) (sub_c (nq_m (n := 51) rfl) (sub_c (nq_m (n := 52) rfl) (sub_c (nq_m (n := 53) rfl) (sub_c (nq_m (n := 54) rfl) (sub_c (nq_m (n := 55) rfl) (sub_c (nq_m (n := 56) rfl) (sub_c (nq_m (n := 57) rfl) (sub_c (nq_m (n := 58) rfl) (sub_c (nq_m (n := 59) rfl) (sub_c (nq_m (n := 60) rfl) sub_n))))))))))))))) (by decide +kernel)
set_option maxRecDepth 100000 in
theorem gX9_findBest_X9_sumOfWaits : GoodIn wsX9_findBest (wsV RX9 94 RX9 yX9_sumOfWaits wsX9_sumOfWaits) := goodIn_app (goodIn_sub (sub_c (nq_m (n := 37) rfl) (sub_c (nq_m (n := 38) rfl) (sub_c (nq_m (n := 39) rfl) (sub_c (nq_m (n := 6) rfl) sub_n)))) (by decide +kernel)) ggX9_findBest_X9_sumOfWaits
noncomputable def dX9_findBest_0_l : List (Nat × Instr × Nat) := [(0, .aload_n 0, 1), (1, .iconst 0, 1), (2, .iload_n 1, 1), (3, .invokevirtual 81, 3), (6, .aload_n 0, 1), (7, .invokevirtual 84, 3), (10, .iconst 1, 1), (11, .istore_n 2, 1), (12, .iload_n 2, 1), (13, .sipush 5040, 3), (16, .if_icmp .ge 75, 3), (19, .aload_n 0, 1), (20, .invokevirtual 87, 3), (23, .istore_n 3, 1), (24, .iload_n 3, 1), (25, .iconst (-1), 1), (26, .if_icmp .ne 4, 3), (29, .return_, 1), (30, .aload_n 0, 1), (31, .iload_n 3, 1), (32, .iload_n 1, 1), (33, .invokevirtual 81, 3), (36, .aload_n 0, 1), (37, .invokevirtual 91, 3), (40, .aload_n 0, 1), (41, .getfield 43, 3), (44, .if_icmp .ne 7, 3), (47, .iconst 1, 1), (48, .goto 4, 3), (51, .iconst 0, 1), (52, .istore 4, 2), (54, .aload_n 0, 1), (55, .invokevirtual 91, 3), (58, .aload_n 0, 1), (59, .getfield 43, 3), (62, .if_icmp .gt 19, 3), (65, .iload 4, 2), (67, .ifCond .eq 18, 3), (70, .aload_n 0, 1), (71, .invokevirtual 94, 3)]
set_option maxRecDepth 100000 in
theorem dX9_findBest_0_g : dX9_findBest_0_l.all (fun x => decide (decode cX9_findBest x.1 = .ok x.2)) = true := by decide +kernel
theorem dX9_findBest_0 : decode cX9_findBest 0 = .ok (.aload_n 0, 1) := nq_d dX9_findBest_0_g (n := 0) rfl
theorem dX9_findBest_1 : decode cX9_findBest 1 = .ok (.iconst 0, 1) := nq_d dX9_findBest_0_g (n := 1) rfl
theorem dX9_findBest_2 : decode cX9_findBest 2 = .ok (.iload_n 1, 1) := nq_d dX9_findBest_0_g (n := 2) rfl
theorem dX9_findBest_3 : decode cX9_findBest 3 = .ok (.invokevirtual 81, 3) := nq_d dX9_findBest_0_g (n := 3) rfl
theorem dX9_findBest_6 : decode cX9_findBest 6 = .ok (.aload_n 0, 1) := nq_d dX9_findBest_0_g (n := 4) rfl
theorem dX9_findBest_7 : decode cX9_findBest 7 = .ok (.invokevirtual 84, 3) := nq_d dX9_findBest_0_g (n := 5) rfl
theorem dX9_findBest_10 : decode cX9_findBest 10 = .ok (.iconst 1, 1) := nq_d dX9_findBest_0_g (n := 6) rfl
theorem dX9_findBest_11 : decode cX9_findBest 11 = .ok (.istore_n 2, 1) := nq_d dX9_findBest_0_g (n := 7) rfl
theorem dX9_findBest_12 : decode cX9_findBest 12 = .ok (.iload_n 2, 1) := nq_d dX9_findBest_0_g (n := 8) rfl
theorem dX9_findBest_13 : decode cX9_findBest 13 = .ok (.sipush 5040, 3) := nq_d dX9_findBest_0_g (n := 9) rfl
theorem dX9_findBest_16 : decode cX9_findBest 16 = .ok (.if_icmp .ge 75, 3) := nq_d dX9_findBest_0_g (n := 10) rfl
theorem dX9_findBest_19 : decode cX9_findBest 19 = .ok (.aload_n 0, 1) := nq_d dX9_findBest_0_g (n := 11) rfl
theorem dX9_findBest_20 : decode cX9_findBest 20 = .ok (.invokevirtual 87, 3) := nq_d dX9_findBest_0_g (n := 12) rfl
theorem dX9_findBest_23 : decode cX9_findBest 23 = .ok (.istore_n 3, 1) := nq_d dX9_findBest_0_g (n := 13) rfl
theorem dX9_findBest_24 : decode cX9_findBest 24 = .ok (.iload_n 3, 1) := nq_d dX9_findBest_0_g (n := 14) rfl
theorem dX9_findBest_25 : decode cX9_findBest 25 = .ok (.iconst (-1), 1) := nq_d dX9_findBest_0_g (n := 15) rfl
theorem dX9_findBest_26 : decode cX9_findBest 26 = .ok (.if_icmp .ne 4, 3) := nq_d dX9_findBest_0_g (n := 16) rfl
theorem dX9_findBest_29 : decode cX9_findBest 29 = .ok (.return_, 1) := nq_d dX9_findBest_0_g (n := 17) rfl
theorem dX9_findBest_30 : decode cX9_findBest 30 = .ok (.aload_n 0, 1) := nq_d dX9_findBest_0_g (n := 18) rfl
theorem dX9_findBest_31 : decode cX9_findBest 31 = .ok (.iload_n 3, 1) := nq_d dX9_findBest_0_g (n := 19) rfl
theorem dX9_findBest_32 : decode cX9_findBest 32 = .ok (.iload_n 1, 1) := nq_d dX9_findBest_0_g (n := 20) rfl
theorem dX9_findBest_33 : decode cX9_findBest 33 = .ok (.invokevirtual 81, 3) := nq_d dX9_findBest_0_g (n := 21) rfl
theorem dX9_findBest_36 : decode cX9_findBest 36 = .ok (.aload_n 0, 1) := nq_d dX9_findBest_0_g (n := 22) rfl
theorem dX9_findBest_37 : decode cX9_findBest 37 = .ok (.invokevirtual 91, 3) := nq_d dX9_findBest_0_g (n := 23) rfl
theorem dX9_findBest_40 : decode cX9_findBest 40 = .ok (.aload_n 0, 1) := nq_d dX9_findBest_0_g (n := 24) rfl
theorem dX9_findBest_41 : decode cX9_findBest 41 = .ok (.getfield 43, 3) := nq_d dX9_findBest_0_g (n := 25) rfl
theorem dX9_findBest_44 : decode cX9_findBest 44 = .ok (.if_icmp .ne 7, 3) := nq_d dX9_findBest_0_g (n := 26) rfl
theorem dX9_findBest_47 : decode cX9_findBest 47 = .ok (.iconst 1, 1) := nq_d dX9_findBest_0_g (n := 27) rfl
theorem dX9_findBest_48 : decode cX9_findBest 48 = .ok (.goto 4, 3) := nq_d dX9_findBest_0_g (n := 28) rfl
theorem dX9_findBest_51 : decode cX9_findBest 51 = .ok (.iconst 0, 1) := nq_d dX9_findBest_0_g (n := 29) rfl
theorem dX9_findBest_52 : decode cX9_findBest 52 = .ok (.istore 4, 2) := nq_d dX9_findBest_0_g (n := 30) rfl
theorem dX9_findBest_54 : decode cX9_findBest 54 = .ok (.aload_n 0, 1) := nq_d dX9_findBest_0_g (n := 31) rfl
theorem dX9_findBest_55 : decode cX9_findBest 55 = .ok (.invokevirtual 91, 3) := nq_d dX9_findBest_0_g (n := 32) rfl
theorem dX9_findBest_58 : decode cX9_findBest 58 = .ok (.aload_n 0, 1) := nq_d dX9_findBest_0_g (n := 33) rfl
theorem dX9_findBest_59 : decode cX9_findBest 59 = .ok (.getfield 43, 3) := nq_d dX9_findBest_0_g (n := 34) rfl
theorem dX9_findBest_62 : decode cX9_findBest 62 = .ok (.if_icmp .gt 19, 3) := nq_d dX9_findBest_0_g (n := 35) rfl
theorem dX9_findBest_65 : decode cX9_findBest 65 = .ok (.iload 4, 2) := nq_d dX9_findBest_0_g (n := 36) rfl
theorem dX9_findBest_67 : decode cX9_findBest 67 = .ok (.ifCond .eq 18, 3) := nq_d dX9_findBest_0_g (n := 37) rfl
theorem dX9_findBest_70 : decode cX9_findBest 70 = .ok (.aload_n 0, 1) := nq_d dX9_findBest_0_g (n := 38) rfl
theorem dX9_findBest_71 : decode cX9_findBest 71 = .ok (.invokevirtual 94, 3) := nq_d dX9_findBest_0_g (n := 39) rfl
noncomputable def dX9_findBest_74_l : List (Nat × Instr × Nat) := [(74, .aload_n 0, 1), (75, .getfield 46, 3), (78, .if_icmp .ge 7, 3), (81, .aload_n 0, 1), (82, .invokevirtual 84, 3), (85, .iinc 2 1, 3), (88, .goto (-76), 3), (91, .return_, 1)]
set_option maxRecDepth 100000 in
theorem dX9_findBest_74_g : dX9_findBest_74_l.all (fun x => decide (decode cX9_findBest x.1 = .ok x.2)) = true := by decide +kernel
theorem dX9_findBest_74 : decode cX9_findBest 74 = .ok (.aload_n 0, 1) := nq_d dX9_findBest_74_g (n := 0) rfl
theorem dX9_findBest_75 : decode cX9_findBest 75 = .ok (.getfield 46, 3) := nq_d dX9_findBest_74_g (n := 1) rfl
theorem dX9_findBest_78 : decode cX9_findBest 78 = .ok (.if_icmp .ge 7, 3) := nq_d dX9_findBest_74_g (n := 2) rfl
theorem dX9_findBest_81 : decode cX9_findBest 81 = .ok (.aload_n 0, 1) := nq_d dX9_findBest_74_g (n := 3) rfl
theorem dX9_findBest_82 : decode cX9_findBest 82 = .ok (.invokevirtual 84, 3) := nq_d dX9_findBest_74_g (n := 4) rfl
theorem dX9_findBest_85 : decode cX9_findBest 85 = .ok (.iinc 2 1, 3) := nq_d dX9_findBest_74_g (n := 5) rfl
theorem dX9_findBest_88 : decode cX9_findBest 88 = .ok (.goto (-76), 3) := nq_d dX9_findBest_74_g (n := 6) rfl
theorem dX9_findBest_91 : decode cX9_findBest 91 = .ok (.return_, 1) := nq_d dX9_findBest_74_g (n := 7) rfl
set_option maxRecDepth 100000 in
theorem ggX9_keepAsBest_X9_sumOfTips : GoodIn wsX9_keepAsBest wsX9_sumOfTips := goodIn_sub (sub_c (nq_m (n := 10) rfl) (sub_c (nq_m (n := 11) rfl) (sub_c (nq_m (n := 3) rfl) (sub_c (nq_m (n := 17) rfl) (sub_c (nq_m (n := 18) rfl) (sub_c (nq_m (n := 19) rfl) (sub_c (nq_m (n := 20) rfl) (sub_c (nq_m (n := 21) rfl) (sub_c (nq_m (n := 22) rfl) (sub_c (nq_m (n := 23) rfl) (sub_c (nq_m (n := 24) rfl) (sub_c (nq_m (n := 25) rfl) (sub_c (nq_m (n := 26) rfl) (sub_c (nq_m (n := 27) rfl) (sub_c (nq_m (n := 28) rfl) sub_n))))))))))))))) (by decide +kernel)
set_option maxRecDepth 100000 in
theorem gX9_keepAsBest_X9_sumOfTips : GoodIn wsX9_keepAsBest (wsV RX9 91 RX9 yX9_sumOfTips wsX9_sumOfTips) := goodIn_app (goodIn_sub (sub_c (nq_m (n := 6) rfl) (sub_c (nq_m (n := 7) rfl) (sub_c (nq_m (n := 8) rfl) (sub_c (nq_m (n := 9) rfl) sub_n)))) (by decide +kernel)) ggX9_keepAsBest_X9_sumOfTips
set_option maxRecDepth 100000 in
theorem ggX9_keepAsBest_X9_sumOfWaits : GoodIn wsX9_keepAsBest wsX9_sumOfWaits := goodIn_sub (sub_c (nq_m (n := 15) rfl) (sub_c (nq_m (n := 16) rfl) (sub_c (nq_m (n := 3) rfl) (sub_c (nq_m (n := 17) rfl) (sub_c (nq_m (n := 18) rfl) (sub_c (nq_m (n := 19) rfl) (sub_c (nq_m (n := 20) rfl) (sub_c (nq_m (n := 21) rfl) (sub_c (nq_m (n := 22) rfl) (sub_c (nq_m (n := 23) rfl) (sub_c (nq_m (n := 24) rfl) (sub_c (nq_m (n := 25) rfl) (sub_c (nq_m (n := 26) rfl) (sub_c (nq_m (n := 27) rfl) (sub_c (nq_m (n := 28) rfl) sub_n))))))))))))))) (by decide +kernel)
set_option maxRecDepth 100000 in
theorem gX9_keepAsBest_X9_sumOfWaits : GoodIn wsX9_keepAsBest (wsV RX9 94 RX9 yX9_sumOfWaits wsX9_sumOfWaits) := goodIn_app (goodIn_sub (sub_c (nq_m (n := 12) rfl) (sub_c (nq_m (n := 13) rfl) (sub_c (nq_m (n := 14) rfl) (sub_c (nq_m (n := 9) rfl) sub_n)))) (by decide +kernel)) ggX9_keepAsBest_X9_sumOfWaits
noncomputable def dX9_keepAsBest_0_l : List (Nat × Instr × Nat) := [(0, .aload_n 0, 1), (1, .aload_n 0, 1), (2, .invokevirtual 91, 3), (5, .putfield 43, 3), (8, .aload_n 0, 1), (9, .aload_n 0, 1), (10, .invokevirtual 94, 3), (13, .putfield 46, 3), (16, .iconst 0, 1), (17, .istore_n 1, 1), (18, .iload_n 1, 1), (19, .aload_n 0, 1), (20, .getfield 36, 3), (23, .if_icmp .ge 27, 3), (26, .iload_n 1, 1), (27, .bipush 7, 2), (29, .if_icmp .ge 21, 3), (32, .aload_n 0, 1), (33, .getfield 33, 3), (36, .iload_n 1, 1), (37, .aload_n 0, 1), (38, .getfield 18, 3), (41, .iload_n 1, 1), (42, .iaload, 1), (43, .iastore, 1), (44, .iinc 1 1, 3), (47, .goto (-29), 3), (50, .return_, 1)]
set_option maxRecDepth 100000 in
theorem dX9_keepAsBest_0_g : dX9_keepAsBest_0_l.all (fun x => decide (decode cX9_keepAsBest x.1 = .ok x.2)) = true := by decide +kernel
theorem dX9_keepAsBest_0 : decode cX9_keepAsBest 0 = .ok (.aload_n 0, 1) := nq_d dX9_keepAsBest_0_g (n := 0) rfl
theorem dX9_keepAsBest_1 : decode cX9_keepAsBest 1 = .ok (.aload_n 0, 1) := nq_d dX9_keepAsBest_0_g (n := 1) rfl
theorem dX9_keepAsBest_2 : decode cX9_keepAsBest 2 = .ok (.invokevirtual 91, 3) := nq_d dX9_keepAsBest_0_g (n := 2) rfl
theorem dX9_keepAsBest_5 : decode cX9_keepAsBest 5 = .ok (.putfield 43, 3) := nq_d dX9_keepAsBest_0_g (n := 3) rfl
theorem dX9_keepAsBest_8 : decode cX9_keepAsBest 8 = .ok (.aload_n 0, 1) := nq_d dX9_keepAsBest_0_g (n := 4) rfl
theorem dX9_keepAsBest_9 : decode cX9_keepAsBest 9 = .ok (.aload_n 0, 1) := nq_d dX9_keepAsBest_0_g (n := 5) rfl
theorem dX9_keepAsBest_10 : decode cX9_keepAsBest 10 = .ok (.invokevirtual 94, 3) := nq_d dX9_keepAsBest_0_g (n := 6) rfl
theorem dX9_keepAsBest_13 : decode cX9_keepAsBest 13 = .ok (.putfield 46, 3) := nq_d dX9_keepAsBest_0_g (n := 7) rfl
theorem dX9_keepAsBest_16 : decode cX9_keepAsBest 16 = .ok (.iconst 0, 1) := nq_d dX9_keepAsBest_0_g (n := 8) rfl
theorem dX9_keepAsBest_17 : decode cX9_keepAsBest 17 = .ok (.istore_n 1, 1) := nq_d dX9_keepAsBest_0_g (n := 9) rfl
theorem dX9_keepAsBest_18 : decode cX9_keepAsBest 18 = .ok (.iload_n 1, 1) := nq_d dX9_keepAsBest_0_g (n := 10) rfl
theorem dX9_keepAsBest_19 : decode cX9_keepAsBest 19 = .ok (.aload_n 0, 1) := nq_d dX9_keepAsBest_0_g (n := 11) rfl
theorem dX9_keepAsBest_20 : decode cX9_keepAsBest 20 = .ok (.getfield 36, 3) := nq_d dX9_keepAsBest_0_g (n := 12) rfl
theorem dX9_keepAsBest_23 : decode cX9_keepAsBest 23 = .ok (.if_icmp .ge 27, 3) := nq_d dX9_keepAsBest_0_g (n := 13) rfl
theorem dX9_keepAsBest_26 : decode cX9_keepAsBest 26 = .ok (.iload_n 1, 1) := nq_d dX9_keepAsBest_0_g (n := 14) rfl
theorem dX9_keepAsBest_27 : decode cX9_keepAsBest 27 = .ok (.bipush 7, 2) := nq_d dX9_keepAsBest_0_g (n := 15) rfl
theorem dX9_keepAsBest_29 : decode cX9_keepAsBest 29 = .ok (.if_icmp .ge 21, 3) := nq_d dX9_keepAsBest_0_g (n := 16) rfl
theorem dX9_keepAsBest_32 : decode cX9_keepAsBest 32 = .ok (.aload_n 0, 1) := nq_d dX9_keepAsBest_0_g (n := 17) rfl
theorem dX9_keepAsBest_33 : decode cX9_keepAsBest 33 = .ok (.getfield 33, 3) := nq_d dX9_keepAsBest_0_g (n := 18) rfl
theorem dX9_keepAsBest_36 : decode cX9_keepAsBest 36 = .ok (.iload_n 1, 1) := nq_d dX9_keepAsBest_0_g (n := 19) rfl
theorem dX9_keepAsBest_37 : decode cX9_keepAsBest 37 = .ok (.aload_n 0, 1) := nq_d dX9_keepAsBest_0_g (n := 20) rfl
theorem dX9_keepAsBest_38 : decode cX9_keepAsBest 38 = .ok (.getfield 18, 3) := nq_d dX9_keepAsBest_0_g (n := 21) rfl
theorem dX9_keepAsBest_41 : decode cX9_keepAsBest 41 = .ok (.iload_n 1, 1) := nq_d dX9_keepAsBest_0_g (n := 22) rfl
theorem dX9_keepAsBest_42 : decode cX9_keepAsBest 42 = .ok (.iaload, 1) := nq_d dX9_keepAsBest_0_g (n := 23) rfl
theorem dX9_keepAsBest_43 : decode cX9_keepAsBest 43 = .ok (.iastore, 1) := nq_d dX9_keepAsBest_0_g (n := 24) rfl
theorem dX9_keepAsBest_44 : decode cX9_keepAsBest 44 = .ok (.iinc 1 1, 3) := nq_d dX9_keepAsBest_0_g (n := 25) rfl
theorem dX9_keepAsBest_47 : decode cX9_keepAsBest 47 = .ok (.goto (-29), 3) := nq_d dX9_keepAsBest_0_g (n := 26) rfl
theorem dX9_keepAsBest_50 : decode cX9_keepAsBest 50 = .ok (.return_, 1) := nq_d dX9_keepAsBest_0_g (n := 27) rfl
set_option maxRecDepth 100000 in
theorem ggX9_toNextRow_X9_swap : GoodIn wsX9_toNextRow wsX9_swap := goodIn_sub (sub_c (nq_m (n := 7) rfl) (sub_c (nq_m (n := 2) rfl) (sub_c (nq_m (n := 8) rfl) (sub_c (nq_m (n := 9) rfl) (sub_c (nq_m (n := 10) rfl) (sub_c (nq_m (n := 11) rfl) (sub_c (nq_m (n := 12) rfl) (sub_c (nq_m (n := 13) rfl) (sub_c (nq_m (n := 14) rfl) (sub_c (nq_m (n := 15) rfl) (sub_c (nq_m (n := 16) rfl) (sub_c (nq_m (n := 17) rfl) (sub_c (nq_m (n := 18) rfl) (sub_c (nq_m (n := 19) rfl) (sub_c (nq_m (n := 20) rfl) (sub_c (nq_m (n := 21) rfl) (sub_c (nq_m (n := 22) rfl) sub_n))))))))))))))))) (by decide +kernel)
set_option maxRecDepth 100000 in
theorem gX9_toNextRow_X9_swap : GoodIn wsX9_toNextRow (wsV RX9 97 RX9 yX9_swap wsX9_swap) := goodIn_app (goodIn_sub (sub_c (nq_m (n := 3) rfl) (sub_c (nq_m (n := 4) rfl) (sub_c (nq_m (n := 5) rfl) (sub_c (nq_m (n := 6) rfl) sub_n)))) (by decide +kernel)) ggX9_toNextRow_X9_swap
noncomputable def dX9_toNextRow_0_l : List (Nat × Instr × Nat) := [(0, .aload_n 0, 1), (1, .getfield 36, 3), (4, .iconst 2, 1), (5, .isub, 1), (6, .istore_n 1, 1), (7, .iload_n 1, 1), (8, .ifCond .lt 26, 3), (11, .aload_n 0, 1), (12, .getfield 18, 3), (15, .iload_n 1, 1), (16, .iaload, 1), (17, .aload_n 0, 1), (18, .getfield 18, 3), (21, .iload_n 1, 1), (22, .iconst 1, 1), (23, .iadd, 1), (24, .iaload, 1), (25, .if_icmp .le 9, 3), (28, .iinc 1 (-1), 3), (31, .goto (-24), 3), (34, .iload_n 1, 1), (35, .ifCond .ge 5, 3), (38, .iconst (-1), 1), (39, .ireturn, 1), (40, .aload_n 0, 1), (41, .getfield 36, 3), (44, .iconst 1, 1), (45, .isub, 1), (46, .istore_n 2, 1), (47, .iload_n 2, 1), (48, .iload_n 1, 1), (49, .if_icmp .le 24, 3), (52, .aload_n 0, 1), (53, .getfield 18, 3), (56, .iload_n 2, 1), (57, .iaload, 1), (58, .aload_n 0, 1), (59, .getfield 18, 3), (62, .iload_n 1, 1), (63, .iaload, 1)]
set_option maxRecDepth 100000 in
theorem dX9_toNextRow_0_g : dX9_toNextRow_0_l.all (fun x => decide (decode cX9_toNextRow x.1 = .ok x.2)) = true := by decide +kernel
theorem dX9_toNextRow_0 : decode cX9_toNextRow 0 = .ok (.aload_n 0, 1) := nq_d dX9_toNextRow_0_g (n := 0) rfl
theorem dX9_toNextRow_1 : decode cX9_toNextRow 1 = .ok (.getfield 36, 3) := nq_d dX9_toNextRow_0_g (n := 1) rfl
theorem dX9_toNextRow_4 : decode cX9_toNextRow 4 = .ok (.iconst 2, 1) := nq_d dX9_toNextRow_0_g (n := 2) rfl
theorem dX9_toNextRow_5 : decode cX9_toNextRow 5 = .ok (.isub, 1) := nq_d dX9_toNextRow_0_g (n := 3) rfl
theorem dX9_toNextRow_6 : decode cX9_toNextRow 6 = .ok (.istore_n 1, 1) := nq_d dX9_toNextRow_0_g (n := 4) rfl
theorem dX9_toNextRow_7 : decode cX9_toNextRow 7 = .ok (.iload_n 1, 1) := nq_d dX9_toNextRow_0_g (n := 5) rfl
theorem dX9_toNextRow_8 : decode cX9_toNextRow 8 = .ok (.ifCond .lt 26, 3) := nq_d dX9_toNextRow_0_g (n := 6) rfl
theorem dX9_toNextRow_11 : decode cX9_toNextRow 11 = .ok (.aload_n 0, 1) := nq_d dX9_toNextRow_0_g (n := 7) rfl
theorem dX9_toNextRow_12 : decode cX9_toNextRow 12 = .ok (.getfield 18, 3) := nq_d dX9_toNextRow_0_g (n := 8) rfl
theorem dX9_toNextRow_15 : decode cX9_toNextRow 15 = .ok (.iload_n 1, 1) := nq_d dX9_toNextRow_0_g (n := 9) rfl
theorem dX9_toNextRow_16 : decode cX9_toNextRow 16 = .ok (.iaload, 1) := nq_d dX9_toNextRow_0_g (n := 10) rfl
theorem dX9_toNextRow_17 : decode cX9_toNextRow 17 = .ok (.aload_n 0, 1) := nq_d dX9_toNextRow_0_g (n := 11) rfl
theorem dX9_toNextRow_18 : decode cX9_toNextRow 18 = .ok (.getfield 18, 3) := nq_d dX9_toNextRow_0_g (n := 12) rfl
theorem dX9_toNextRow_21 : decode cX9_toNextRow 21 = .ok (.iload_n 1, 1) := nq_d dX9_toNextRow_0_g (n := 13) rfl
theorem dX9_toNextRow_22 : decode cX9_toNextRow 22 = .ok (.iconst 1, 1) := nq_d dX9_toNextRow_0_g (n := 14) rfl
theorem dX9_toNextRow_23 : decode cX9_toNextRow 23 = .ok (.iadd, 1) := nq_d dX9_toNextRow_0_g (n := 15) rfl
theorem dX9_toNextRow_24 : decode cX9_toNextRow 24 = .ok (.iaload, 1) := nq_d dX9_toNextRow_0_g (n := 16) rfl
theorem dX9_toNextRow_25 : decode cX9_toNextRow 25 = .ok (.if_icmp .le 9, 3) := nq_d dX9_toNextRow_0_g (n := 17) rfl
theorem dX9_toNextRow_28 : decode cX9_toNextRow 28 = .ok (.iinc 1 (-1), 3) := nq_d dX9_toNextRow_0_g (n := 18) rfl
theorem dX9_toNextRow_31 : decode cX9_toNextRow 31 = .ok (.goto (-24), 3) := nq_d dX9_toNextRow_0_g (n := 19) rfl
theorem dX9_toNextRow_34 : decode cX9_toNextRow 34 = .ok (.iload_n 1, 1) := nq_d dX9_toNextRow_0_g (n := 20) rfl
theorem dX9_toNextRow_35 : decode cX9_toNextRow 35 = .ok (.ifCond .ge 5, 3) := nq_d dX9_toNextRow_0_g (n := 21) rfl
theorem dX9_toNextRow_38 : decode cX9_toNextRow 38 = .ok (.iconst (-1), 1) := nq_d dX9_toNextRow_0_g (n := 22) rfl
theorem dX9_toNextRow_39 : decode cX9_toNextRow 39 = .ok (.ireturn, 1) := nq_d dX9_toNextRow_0_g (n := 23) rfl
theorem dX9_toNextRow_40 : decode cX9_toNextRow 40 = .ok (.aload_n 0, 1) := nq_d dX9_toNextRow_0_g (n := 24) rfl
theorem dX9_toNextRow_41 : decode cX9_toNextRow 41 = .ok (.getfield 36, 3) := nq_d dX9_toNextRow_0_g (n := 25) rfl
theorem dX9_toNextRow_44 : decode cX9_toNextRow 44 = .ok (.iconst 1, 1) := nq_d dX9_toNextRow_0_g (n := 26) rfl
theorem dX9_toNextRow_45 : decode cX9_toNextRow 45 = .ok (.isub, 1) := nq_d dX9_toNextRow_0_g (n := 27) rfl
theorem dX9_toNextRow_46 : decode cX9_toNextRow 46 = .ok (.istore_n 2, 1) := nq_d dX9_toNextRow_0_g (n := 28) rfl
theorem dX9_toNextRow_47 : decode cX9_toNextRow 47 = .ok (.iload_n 2, 1) := nq_d dX9_toNextRow_0_g (n := 29) rfl
theorem dX9_toNextRow_48 : decode cX9_toNextRow 48 = .ok (.iload_n 1, 1) := nq_d dX9_toNextRow_0_g (n := 30) rfl
theorem dX9_toNextRow_49 : decode cX9_toNextRow 49 = .ok (.if_icmp .le 24, 3) := nq_d dX9_toNextRow_0_g (n := 31) rfl
theorem dX9_toNextRow_52 : decode cX9_toNextRow 52 = .ok (.aload_n 0, 1) := nq_d dX9_toNextRow_0_g (n := 32) rfl
theorem dX9_toNextRow_53 : decode cX9_toNextRow 53 = .ok (.getfield 18, 3) := nq_d dX9_toNextRow_0_g (n := 33) rfl
theorem dX9_toNextRow_56 : decode cX9_toNextRow 56 = .ok (.iload_n 2, 1) := nq_d dX9_toNextRow_0_g (n := 34) rfl
theorem dX9_toNextRow_57 : decode cX9_toNextRow 57 = .ok (.iaload, 1) := nq_d dX9_toNextRow_0_g (n := 35) rfl
theorem dX9_toNextRow_58 : decode cX9_toNextRow 58 = .ok (.aload_n 0, 1) := nq_d dX9_toNextRow_0_g (n := 36) rfl
theorem dX9_toNextRow_59 : decode cX9_toNextRow 59 = .ok (.getfield 18, 3) := nq_d dX9_toNextRow_0_g (n := 37) rfl
theorem dX9_toNextRow_62 : decode cX9_toNextRow 62 = .ok (.iload_n 1, 1) := nq_d dX9_toNextRow_0_g (n := 38) rfl
theorem dX9_toNextRow_63 : decode cX9_toNextRow 63 = .ok (.iaload, 1) := nq_d dX9_toNextRow_0_g (n := 39) rfl
noncomputable def dX9_toNextRow_64_l : List (Nat × Instr × Nat) := [(64, .if_icmp .ge 9, 3), (67, .iinc 2 (-1), 3), (70, .goto (-23), 3), (73, .aload_n 0, 1), (74, .iload_n 1, 1), (75, .iload_n 2, 1), (76, .invokevirtual 97, 3), (79, .iload_n 1, 1), (80, .iconst 1, 1), (81, .iadd, 1), (82, .istore_n 3, 1), (83, .aload_n 0, 1), (84, .getfield 36, 3), (87, .iconst 1, 1), (88, .isub, 1), (89, .istore 4, 2), (91, .iload_n 3, 1), (92, .iload 4, 2), (94, .if_icmp .ge 19, 3), (97, .aload_n 0, 1), (98, .iload_n 3, 1), (99, .iload 4, 2), (101, .invokevirtual 97, 3), (104, .iinc 3 1, 3), (107, .iinc 4 (-1), 3), (110, .goto (-19), 3), (113, .iload_n 1, 1), (114, .ireturn, 1)]
set_option maxRecDepth 100000 in
theorem dX9_toNextRow_64_g : dX9_toNextRow_64_l.all (fun x => decide (decode cX9_toNextRow x.1 = .ok x.2)) = true := by decide +kernel
theorem dX9_toNextRow_64 : decode cX9_toNextRow 64 = .ok (.if_icmp .ge 9, 3) := nq_d dX9_toNextRow_64_g (n := 0) rfl
theorem dX9_toNextRow_67 : decode cX9_toNextRow 67 = .ok (.iinc 2 (-1), 3) := nq_d dX9_toNextRow_64_g (n := 1) rfl
theorem dX9_toNextRow_70 : decode cX9_toNextRow 70 = .ok (.goto (-23), 3) := nq_d dX9_toNextRow_64_g (n := 2) rfl
theorem dX9_toNextRow_73 : decode cX9_toNextRow 73 = .ok (.aload_n 0, 1) := nq_d dX9_toNextRow_64_g (n := 3) rfl
theorem dX9_toNextRow_74 : decode cX9_toNextRow 74 = .ok (.iload_n 1, 1) := nq_d dX9_toNextRow_64_g (n := 4) rfl
theorem dX9_toNextRow_75 : decode cX9_toNextRow 75 = .ok (.iload_n 2, 1) := nq_d dX9_toNextRow_64_g (n := 5) rfl
theorem dX9_toNextRow_76 : decode cX9_toNextRow 76 = .ok (.invokevirtual 97, 3) := nq_d dX9_toNextRow_64_g (n := 6) rfl
theorem dX9_toNextRow_79 : decode cX9_toNextRow 79 = .ok (.iload_n 1, 1) := nq_d dX9_toNextRow_64_g (n := 7) rfl
theorem dX9_toNextRow_80 : decode cX9_toNextRow 80 = .ok (.iconst 1, 1) := nq_d dX9_toNextRow_64_g (n := 8) rfl
theorem dX9_toNextRow_81 : decode cX9_toNextRow 81 = .ok (.iadd, 1) := nq_d dX9_toNextRow_64_g (n := 9) rfl
theorem dX9_toNextRow_82 : decode cX9_toNextRow 82 = .ok (.istore_n 3, 1) := nq_d dX9_toNextRow_64_g (n := 10) rfl
theorem dX9_toNextRow_83 : decode cX9_toNextRow 83 = .ok (.aload_n 0, 1) := nq_d dX9_toNextRow_64_g (n := 11) rfl
theorem dX9_toNextRow_84 : decode cX9_toNextRow 84 = .ok (.getfield 36, 3) := nq_d dX9_toNextRow_64_g (n := 12) rfl
theorem dX9_toNextRow_87 : decode cX9_toNextRow 87 = .ok (.iconst 1, 1) := nq_d dX9_toNextRow_64_g (n := 13) rfl
theorem dX9_toNextRow_88 : decode cX9_toNextRow 88 = .ok (.isub, 1) := nq_d dX9_toNextRow_64_g (n := 14) rfl
theorem dX9_toNextRow_89 : decode cX9_toNextRow 89 = .ok (.istore 4, 2) := nq_d dX9_toNextRow_64_g (n := 15) rfl
theorem dX9_toNextRow_91 : decode cX9_toNextRow 91 = .ok (.iload_n 3, 1) := nq_d dX9_toNextRow_64_g (n := 16) rfl
theorem dX9_toNextRow_92 : decode cX9_toNextRow 92 = .ok (.iload 4, 2) := nq_d dX9_toNextRow_64_g (n := 17) rfl
theorem dX9_toNextRow_94 : decode cX9_toNextRow 94 = .ok (.if_icmp .ge 19, 3) := nq_d dX9_toNextRow_64_g (n := 18) rfl
theorem dX9_toNextRow_97 : decode cX9_toNextRow 97 = .ok (.aload_n 0, 1) := nq_d dX9_toNextRow_64_g (n := 19) rfl
theorem dX9_toNextRow_98 : decode cX9_toNextRow 98 = .ok (.iload_n 3, 1) := nq_d dX9_toNextRow_64_g (n := 20) rfl
theorem dX9_toNextRow_99 : decode cX9_toNextRow 99 = .ok (.iload 4, 2) := nq_d dX9_toNextRow_64_g (n := 21) rfl
theorem dX9_toNextRow_101 : decode cX9_toNextRow 101 = .ok (.invokevirtual 97, 3) := nq_d dX9_toNextRow_64_g (n := 22) rfl
theorem dX9_toNextRow_104 : decode cX9_toNextRow 104 = .ok (.iinc 3 1, 3) := nq_d dX9_toNextRow_64_g (n := 23) rfl
theorem dX9_toNextRow_107 : decode cX9_toNextRow 107 = .ok (.iinc 4 (-1), 3) := nq_d dX9_toNextRow_64_g (n := 24) rfl
theorem dX9_toNextRow_110 : decode cX9_toNextRow 110 = .ok (.goto (-19), 3) := nq_d dX9_toNextRow_64_g (n := 25) rfl
theorem dX9_toNextRow_113 : decode cX9_toNextRow 113 = .ok (.iload_n 1, 1) := nq_d dX9_toNextRow_64_g (n := 26) rfl
theorem dX9_toNextRow_114 : decode cX9_toNextRow 114 = .ok (.ireturn, 1) := nq_d dX9_toNextRow_64_g (n := 27) rfl
set_option maxRecDepth 100000 in
theorem ggX9_swap_X10_within : GoodIn wsX9_swap wsX10_within := goodIn_sub (sub_c (nq_m (n := 4) rfl) sub_n) (by decide +kernel)
set_option maxRecDepth 100000 in
theorem gX9_swap_X10_within_n71 : GoodIn wsX9_swap (wsX10_within) := ggX9_swap_X10_within
noncomputable def dX9_swap_0_l : List (Nat × Instr × Nat) := [(0, .iload_n 1, 1), (1, .iconst 0, 1), (2, .bipush 15, 2), (4, .invokestatic 71, 3), (7, .ifCond .eq 13, 3), (10, .iload_n 2, 1), (11, .iconst 0, 1), (12, .bipush 15, 2), (14, .invokestatic 71, 3), (17, .ifCond .ne 4, 3), (20, .return_, 1), (21, .aload_n 0, 1), (22, .getfield 18, 3), (25, .iload_n 1, 1), (26, .iaload, 1), (27, .istore_n 3, 1), (28, .aload_n 0, 1), (29, .getfield 18, 3), (32, .iload_n 1, 1), (33, .aload_n 0, 1), (34, .getfield 18, 3), (37, .iload_n 2, 1), (38, .iaload, 1), (39, .iastore, 1), (40, .aload_n 0, 1), (41, .getfield 18, 3), (44, .iload_n 2, 1), (45, .iload_n 3, 1), (46, .iastore, 1), (47, .return_, 1)]
set_option maxRecDepth 100000 in
theorem dX9_swap_0_g : dX9_swap_0_l.all (fun x => decide (decode cX9_swap x.1 = .ok x.2)) = true := by decide +kernel
theorem dX9_swap_0 : decode cX9_swap 0 = .ok (.iload_n 1, 1) := nq_d dX9_swap_0_g (n := 0) rfl
theorem dX9_swap_1 : decode cX9_swap 1 = .ok (.iconst 0, 1) := nq_d dX9_swap_0_g (n := 1) rfl
theorem dX9_swap_2 : decode cX9_swap 2 = .ok (.bipush 15, 2) := nq_d dX9_swap_0_g (n := 2) rfl
theorem dX9_swap_4 : decode cX9_swap 4 = .ok (.invokestatic 71, 3) := nq_d dX9_swap_0_g (n := 3) rfl
theorem dX9_swap_7 : decode cX9_swap 7 = .ok (.ifCond .eq 13, 3) := nq_d dX9_swap_0_g (n := 4) rfl
theorem dX9_swap_10 : decode cX9_swap 10 = .ok (.iload_n 2, 1) := nq_d dX9_swap_0_g (n := 5) rfl
theorem dX9_swap_11 : decode cX9_swap 11 = .ok (.iconst 0, 1) := nq_d dX9_swap_0_g (n := 6) rfl
theorem dX9_swap_12 : decode cX9_swap 12 = .ok (.bipush 15, 2) := nq_d dX9_swap_0_g (n := 7) rfl
theorem dX9_swap_14 : decode cX9_swap 14 = .ok (.invokestatic 71, 3) := nq_d dX9_swap_0_g (n := 8) rfl
theorem dX9_swap_17 : decode cX9_swap 17 = .ok (.ifCond .ne 4, 3) := nq_d dX9_swap_0_g (n := 9) rfl
theorem dX9_swap_20 : decode cX9_swap 20 = .ok (.return_, 1) := nq_d dX9_swap_0_g (n := 10) rfl
theorem dX9_swap_21 : decode cX9_swap 21 = .ok (.aload_n 0, 1) := nq_d dX9_swap_0_g (n := 11) rfl
theorem dX9_swap_22 : decode cX9_swap 22 = .ok (.getfield 18, 3) := nq_d dX9_swap_0_g (n := 12) rfl
theorem dX9_swap_25 : decode cX9_swap 25 = .ok (.iload_n 1, 1) := nq_d dX9_swap_0_g (n := 13) rfl
theorem dX9_swap_26 : decode cX9_swap 26 = .ok (.iaload, 1) := nq_d dX9_swap_0_g (n := 14) rfl
theorem dX9_swap_27 : decode cX9_swap 27 = .ok (.istore_n 3, 1) := nq_d dX9_swap_0_g (n := 15) rfl
theorem dX9_swap_28 : decode cX9_swap 28 = .ok (.aload_n 0, 1) := nq_d dX9_swap_0_g (n := 16) rfl
theorem dX9_swap_29 : decode cX9_swap 29 = .ok (.getfield 18, 3) := nq_d dX9_swap_0_g (n := 17) rfl
theorem dX9_swap_32 : decode cX9_swap 32 = .ok (.iload_n 1, 1) := nq_d dX9_swap_0_g (n := 18) rfl
theorem dX9_swap_33 : decode cX9_swap 33 = .ok (.aload_n 0, 1) := nq_d dX9_swap_0_g (n := 19) rfl
theorem dX9_swap_34 : decode cX9_swap 34 = .ok (.getfield 18, 3) := nq_d dX9_swap_0_g (n := 20) rfl
theorem dX9_swap_37 : decode cX9_swap 37 = .ok (.iload_n 2, 1) := nq_d dX9_swap_0_g (n := 21) rfl
theorem dX9_swap_38 : decode cX9_swap 38 = .ok (.iaload, 1) := nq_d dX9_swap_0_g (n := 22) rfl
theorem dX9_swap_39 : decode cX9_swap 39 = .ok (.iastore, 1) := nq_d dX9_swap_0_g (n := 23) rfl
theorem dX9_swap_40 : decode cX9_swap 40 = .ok (.aload_n 0, 1) := nq_d dX9_swap_0_g (n := 24) rfl
theorem dX9_swap_41 : decode cX9_swap 41 = .ok (.getfield 18, 3) := nq_d dX9_swap_0_g (n := 25) rfl
theorem dX9_swap_44 : decode cX9_swap 44 = .ok (.iload_n 2, 1) := nq_d dX9_swap_0_g (n := 26) rfl
theorem dX9_swap_45 : decode cX9_swap 45 = .ok (.iload_n 3, 1) := nq_d dX9_swap_0_g (n := 27) rfl
theorem dX9_swap_46 : decode cX9_swap 46 = .ok (.iastore, 1) := nq_d dX9_swap_0_g (n := 28) rfl
theorem dX9_swap_47 : decode cX9_swap 47 = .ok (.return_, 1) := nq_d dX9_swap_0_g (n := 29) rfl
set_option maxRecDepth 100000 in
theorem ggX10_init_X3_init : GoodIn wsX10_init wsX3_init := goodIn_sub (sub_c (nq_m (n := 33) rfl) (sub_c (nq_m (n := 34) rfl) (sub_c (nq_m (n := 2) rfl) (sub_c (nq_m (n := 3) rfl) (sub_c (nq_m (n := 35) rfl) (sub_c (nq_m (n := 36) rfl) (sub_c (nq_m (n := 37) rfl) (sub_c (nq_m (n := 38) rfl) (sub_c (nq_m (n := 39) rfl) (sub_c (nq_m (n := 40) rfl) (sub_c (nq_m (n := 41) rfl) (sub_c (nq_m (n := 42) rfl) (sub_c (nq_m (n := 149) rfl) (sub_c (nq_m (n := 150) rfl) (sub_c (nq_m (n := 151) rfl) (sub_c (nq_m (n := 152) rfl) (sub_c (nq_m (n := 153) rfl) (sub_c (nq_m (n := 154) rfl) (sub_c (nq_m (n := 155) rfl) sub_n))))))))))))))))))) (by decide +kernel)
set_option maxRecDepth 100000 in
theorem gX10_init_X3_init_n9 : GoodIn wsX10_init (wsX3_init) := ggX10_init_X3_init
set_option maxRecDepth 100000 in
theorem ggX10_init_X8_init : GoodIn wsX10_init wsX8_init := goodIn_sub (sub_c (nq_m (n := 44) rfl) (sub_c (nq_m (n := 45) rfl) (sub_c (nq_m (n := 2) rfl) (sub_c (nq_m (n := 3) rfl) (sub_c (nq_m (n := 46) rfl) (sub_c (nq_m (n := 47) rfl) (sub_c (nq_m (n := 48) rfl) (sub_c (nq_m (n := 49) rfl) (sub_c (nq_m (n := 50) rfl) (sub_c (nq_m (n := 51) rfl) (sub_c (nq_m (n := 52) rfl) (sub_c (nq_m (n := 53) rfl) (sub_c (nq_m (n := 54) rfl) (sub_c (nq_m (n := 5) rfl) (sub_c (nq_m (n := 6) rfl) (sub_c (nq_m (n := 55) rfl) (sub_c (nq_m (n := 32) rfl) (sub_c (nq_m (n := 33) rfl) (sub_c (nq_m (n := 34) rfl) (sub_c (nq_m (n := 35) rfl) (sub_c (nq_m (n := 36) rfl) (sub_c (nq_m (n := 37) rfl) (sub_c (nq_m (n := 38) rfl) (sub_c (nq_m (n := 39) rfl) (sub_c (nq_m (n := 40) rfl) (sub_c (nq_m (n := 41) rfl) (sub_c (nq_m (n := 42) rfl) (sub_c (nq_m (n := 166) rfl) (sub_c (nq_m (n := 167) rfl) (sub_c (nq_m (n := 168) rfl) (sub_c (nq_m (n := 169) rfl) (sub_c (nq_m (n := 170) rfl) (sub_c (nq_m (n := 171) rfl) (sub_c (nq_m (n := 172) rfl) (sub_c (nq_m (n := 173) rfl) (sub_c (nq_m (n := 149) rfl) (sub_c (nq_m (n := 150) rfl) (sub_c (nq_m (n := 151) rfl) (sub_c (nq_m (n := 152) rfl) (sub_c (nq_m (n := 153) rfl) (sub_c (nq_m (n := 154) rfl) (sub_c (nq_m (n := 155) rfl) sub_n)))))))))))))))))))))))))))))))))))))))))) (by decide +kernel)
set_option maxRecDepth 100000 in
theorem gX10_init_X8_init_n18 : GoodIn wsX10_init (wsX8_init) := ggX10_init_X8_init
set_option maxRecDepth 100000 in
theorem ggX10_init_X4_init : GoodIn wsX10_init wsX4_init := goodIn_sub (sub_c (nq_m (n := 57) rfl) (sub_c (nq_m (n := 58) rfl) (sub_c (nq_m (n := 2) rfl) (sub_c (nq_m (n := 3) rfl) (sub_c (nq_m (n := 59) rfl) (sub_c (nq_m (n := 60) rfl) (sub_c (nq_m (n := 61) rfl) (sub_c (nq_m (n := 62) rfl) (sub_c (nq_m (n := 63) rfl) (sub_c (nq_m (n := 64) rfl) (sub_c (nq_m (n := 65) rfl) (sub_c (nq_m (n := 66) rfl) (sub_c (nq_m (n := 67) rfl) (sub_c (nq_m (n := 68) rfl) (sub_c (nq_m (n := 69) rfl) (sub_c (nq_m (n := 70) rfl) (sub_c (nq_m (n := 71) rfl) (sub_c (nq_m (n := 72) rfl) (sub_c (nq_m (n := 73) rfl) (sub_c (nq_m (n := 74) rfl) (sub_c (nq_m (n := 75) rfl) (sub_c (nq_m (n := 76) rfl) (sub_c (nq_m (n := 77) rfl) (sub_c (nq_m (n := 78) rfl) (sub_c (nq_m (n := 79) rfl) (sub_c (nq_m (n := 35) rfl) (sub_c (nq_m (n := 80) rfl) (sub_c (nq_m (n := 81) rfl) (sub_c (nq_m (n := 82) rfl) (sub_c (nq_m (n := 83) rfl) (sub_c (nq_m (n := 84) rfl) (sub_c (nq_m (n := 85) rfl) (sub_c (nq_m (n := 86) rfl) (sub_c (nq_m (n := 87) rfl) (sub_c (nq_m (n := 88) rfl) (sub_c (nq_m (n := 89) rfl) (sub_c (nq_m (n := 90) rfl) (sub_c (nq_m (n := 91) rfl) (sub_c (nq_m (n := 92) rfl) (sub_c (nq_m (n := 93) rfl) (sub_c (nq_m (n := 94) rfl) (sub_c (nq_m (n := 95) rfl) (sub_c (nq_m (n := 96) rfl) (sub_c (nq_m (n := 97) rfl) (sub_c (nq_m (n := 98) rfl) (sub_c (nq_m (n := 99) rfl) (sub_c (nq_m (n := 100) rfl) (sub_c (nq_m (n := 101) rfl) (sub_c (nq_m (n := 102) rfl) (sub_c (nq_m (n := 103) rfl) (sub_c (nq_m (n := 198) rfl) (sub_c (nq_m (n := 199) rfl) (sub_c (nq_m (n := 200) rfl) (sub_c (nq_m (n := 201) rfl) (sub_c (nq_m (n := 202) rfl) (sub_c (nq_m (n := 203) rfl) (sub_c (nq_m (n := 204) rfl) (sub_c (nq_m (n := 205) rfl) (sub_c (nq_m (n := 174) rfl) (sub_c (nq_m (n := 175) rfl) (sub_c (nq_m (n := 176) rfl) (sub_c (nq_m (n := 177) rfl) (sub_c (nq_m (n := 178) rfl) (sub_c (nq_m (n := 206) rfl) (sub_c (nq_m (n := 207) rfl) (sub_c (nq_m (n := 208) rfl) (sub_c (nq_m (n := 209) rfl) (sub_c (nq_m (n := 210) rfl) (sub_c (nq_m (n := 211) rfl) (sub_c (nq_m (n := 212) rfl) (sub_c (nq_m (n := 213) rfl) sub_n))))))))))))))))))))))))))))))))))))))))))))))))))))))))))))))))))))))) (by decide +kernel)
set_option maxRecDepth 100000 in
theorem gX10_init_X4_init_n25 : GoodIn wsX10_init (wsX4_init) := ggX10_init_X4_init
set_option maxRecDepth 100000 in
theorem ggX10_init_X7_init : GoodIn wsX10_init wsX7_init := goodIn_sub (sub_c (nq_m (n := 105) rfl) (sub_c (nq_m (n := 106) rfl) (sub_c (nq_m (n := 2) rfl) (sub_c (nq_m (n := 3) rfl) (sub_c (nq_m (n := 35) rfl) (sub_c (nq_m (n := 107) rfl) (sub_c (nq_m (n := 108) rfl) (sub_c (nq_m (n := 109) rfl) (sub_c (nq_m (n := 110) rfl) (sub_c (nq_m (n := 111) rfl) (sub_c (nq_m (n := 179) rfl) (sub_c (nq_m (n := 180) rfl) (sub_c (nq_m (n := 181) rfl) (sub_c (nq_m (n := 182) rfl) sub_n)))))))))))))) (by decide +kernel)
set_option maxRecDepth 100000 in
theorem gX10_init_X7_init_n38 : GoodIn wsX10_init (wsX7_init) := ggX10_init_X7_init
set_option maxRecDepth 100000 in
theorem ggX10_init_X9_init : GoodIn wsX10_init wsX9_init := goodIn_sub (sub_c (nq_m (n := 113) rfl) (sub_c (nq_m (n := 114) rfl) (sub_c (nq_m (n := 2) rfl) (sub_c (nq_m (n := 3) rfl) (sub_c (nq_m (n := 35) rfl) (sub_c (nq_m (n := 115) rfl) (sub_c (nq_m (n := 116) rfl) (sub_c (nq_m (n := 117) rfl) (sub_c (nq_m (n := 118) rfl) (sub_c (nq_m (n := 119) rfl) (sub_c (nq_m (n := 120) rfl) (sub_c (nq_m (n := 121) rfl) (sub_c (nq_m (n := 122) rfl) (sub_c (nq_m (n := 123) rfl) (sub_c (nq_m (n := 124) rfl) (sub_c (nq_m (n := 125) rfl) (sub_c (nq_m (n := 126) rfl) (sub_c (nq_m (n := 183) rfl) (sub_c (nq_m (n := 184) rfl) (sub_c (nq_m (n := 185) rfl) (sub_c (nq_m (n := 186) rfl) (sub_c (nq_m (n := 187) rfl) (sub_c (nq_m (n := 188) rfl) (sub_c (nq_m (n := 189) rfl) (sub_c (nq_m (n := 190) rfl) (sub_c (nq_m (n := 191) rfl) (sub_c (nq_m (n := 192) rfl) (sub_c (nq_m (n := 193) rfl) (sub_c (nq_m (n := 194) rfl) sub_n))))))))))))))))))))))))))))) (by decide +kernel)
set_option maxRecDepth 100000 in
theorem gX10_init_X9_init_n45 : GoodIn wsX10_init (wsX9_init) := ggX10_init_X9_init
set_option maxRecDepth 100000 in
theorem ggX10_init_X5_init : GoodIn wsX10_init wsX5_init := goodIn_sub (sub_c (nq_m (n := 128) rfl) (sub_c (nq_m (n := 129) rfl) (sub_c (nq_m (n := 2) rfl) (sub_c (nq_m (n := 3) rfl) (sub_c (nq_m (n := 35) rfl) (sub_c (nq_m (n := 130) rfl) (sub_c (nq_m (n := 131) rfl) (sub_c (nq_m (n := 132) rfl) (sub_c (nq_m (n := 133) rfl) (sub_c (nq_m (n := 195) rfl) (sub_c (nq_m (n := 196) rfl) (sub_c (nq_m (n := 197) rfl) sub_n)))))))))))) (by decide +kernel)
set_option maxRecDepth 100000 in
theorem gX10_init_X5_init_n52 : GoodIn wsX10_init (wsX5_init) := ggX10_init_X5_init
set_option maxRecDepth 100000 in
theorem ggX10_init_X3_clear : GoodIn wsX10_init wsX3_clear := goodIn_sub (sub_c (nq_m (n := 137) rfl) (sub_c (nq_m (n := 40) rfl) (sub_c (nq_m (n := 41) rfl) (sub_c (nq_m (n := 42) rfl) (sub_c (nq_m (n := 138) rfl) (sub_c (nq_m (n := 139) rfl) (sub_c (nq_m (n := 140) rfl) (sub_c (nq_m (n := 6) rfl) (sub_c (nq_m (n := 141) rfl) (sub_c (nq_m (n := 39) rfl) (sub_c (nq_m (n := 142) rfl) (sub_c (nq_m (n := 143) rfl) (sub_c (nq_m (n := 144) rfl) (sub_c (nq_m (n := 145) rfl) (sub_c (nq_m (n := 38) rfl) (sub_c (nq_m (n := 146) rfl) (sub_c (nq_m (n := 147) rfl) (sub_c (nq_m (n := 148) rfl) (sub_c (nq_m (n := 149) rfl) (sub_c (nq_m (n := 150) rfl) (sub_c (nq_m (n := 151) rfl) (sub_c (nq_m (n := 152) rfl) (sub_c (nq_m (n := 153) rfl) (sub_c (nq_m (n := 154) rfl) (sub_c (nq_m (n := 155) rfl) sub_n))))))))))))))))))))))))) (by decide +kernel)
set_option maxRecDepth 100000 in
theorem gX10_init_X3_clear : GoodIn wsX10_init (wsV RX10 64 RX3 yX3_clear wsX3_clear) := goodIn_app (goodIn_sub (sub_c (nq_m (n := 134) rfl) (sub_c (nq_m (n := 135) rfl) (sub_c (nq_m (n := 136) rfl) (sub_c (nq_m (n := 6) rfl) sub_n)))) (by decide +kernel)) ggX10_init_X3_clear
noncomputable def dX10_init_0_l : List (Nat × Instr × Nat) := [(0, .aload_n 0, 1), (1, .invokespecial 1, 3), (4, .aload_n 0, 1), (5, .new 7, 3), (8, .dup, 1), (9, .invokespecial 9, 3), (12, .putfield 10, 3), (15, .aload_n 0, 1), (16, .new 16, 3), (19, .dup, 1), (20, .invokespecial 18, 3), (23, .putfield 19, 3), (26, .aload_n 0, 1), (27, .new 23, 3), (30, .dup, 1), (31, .invokespecial 25, 3), (34, .putfield 26, 3), (37, .aload_n 0, 1), (38, .new 23, 3), (41, .dup, 1), (42, .invokespecial 25, 3), (45, .putfield 30, 3), (48, .aload_n 0, 1), (49, .new 23, 3), (52, .dup, 1), (53, .invokespecial 25, 3), (56, .putfield 33, 3), (59, .aload_n 0, 1), (60, .new 36, 3), (63, .dup, 1), (64, .invokespecial 38, 3), (67, .putfield 39, 3), (70, .aload_n 0, 1), (71, .new 43, 3), (74, .dup, 1), (75, .invokespecial 45, 3), (78, .putfield 46, 3), (81, .aload_n 0, 1), (82, .new 50, 3), (85, .dup, 1)]
set_option maxRecDepth 100000 in
theorem dX10_init_0_g : dX10_init_0_l.all (fun x => decide (decode cX10_init x.1 = .ok x.2)) = true := by decide +kernel
theorem dX10_init_0 : decode cX10_init 0 = .ok (.aload_n 0, 1) := nq_d dX10_init_0_g (n := 0) rfl
theorem dX10_init_1 : decode cX10_init 1 = .ok (.invokespecial 1, 3) := nq_d dX10_init_0_g (n := 1) rfl
theorem dX10_init_4 : decode cX10_init 4 = .ok (.aload_n 0, 1) := nq_d dX10_init_0_g (n := 2) rfl
theorem dX10_init_5 : decode cX10_init 5 = .ok (.new 7, 3) := nq_d dX10_init_0_g (n := 3) rfl
theorem dX10_init_8 : decode cX10_init 8 = .ok (.dup, 1) := nq_d dX10_init_0_g (n := 4) rfl
theorem dX10_init_9 : decode cX10_init 9 = .ok (.invokespecial 9, 3) := nq_d dX10_init_0_g (n := 5) rfl
theorem dX10_init_12 : decode cX10_init 12 = .ok (.putfield 10, 3) := nq_d dX10_init_0_g (n := 6) rfl
theorem dX10_init_15 : decode cX10_init 15 = .ok (.aload_n 0, 1) := nq_d dX10_init_0_g (n := 7) rfl
theorem dX10_init_16 : decode cX10_init 16 = .ok (.new 16, 3) := nq_d dX10_init_0_g (n := 8) rfl
theorem dX10_init_19 : decode cX10_init 19 = .ok (.dup, 1) := nq_d dX10_init_0_g (n := 9) rfl
theorem dX10_init_20 : decode cX10_init 20 = .ok (.invokespecial 18, 3) := nq_d dX10_init_0_g (n := 10) rfl
theorem dX10_init_23 : decode cX10_init 23 = .ok (.putfield 19, 3) := nq_d dX10_init_0_g (n := 11) rfl
theorem dX10_init_26 : decode cX10_init 26 = .ok (.aload_n 0, 1) := nq_d dX10_init_0_g (n := 12) rfl
theorem dX10_init_27 : decode cX10_init 27 = .ok (.new 23, 3) := nq_d dX10_init_0_g (n := 13) rfl
theorem dX10_init_30 : decode cX10_init 30 = .ok (.dup, 1) := nq_d dX10_init_0_g (n := 14) rfl
theorem dX10_init_31 : decode cX10_init 31 = .ok (.invokespecial 25, 3) := nq_d dX10_init_0_g (n := 15) rfl
theorem dX10_init_34 : decode cX10_init 34 = .ok (.putfield 26, 3) := nq_d dX10_init_0_g (n := 16) rfl
theorem dX10_init_37 : decode cX10_init 37 = .ok (.aload_n 0, 1) := nq_d dX10_init_0_g (n := 17) rfl
theorem dX10_init_38 : decode cX10_init 38 = .ok (.new 23, 3) := nq_d dX10_init_0_g (n := 18) rfl
theorem dX10_init_41 : decode cX10_init 41 = .ok (.dup, 1) := nq_d dX10_init_0_g (n := 19) rfl
theorem dX10_init_42 : decode cX10_init 42 = .ok (.invokespecial 25, 3) := nq_d dX10_init_0_g (n := 20) rfl
theorem dX10_init_45 : decode cX10_init 45 = .ok (.putfield 30, 3) := nq_d dX10_init_0_g (n := 21) rfl
theorem dX10_init_48 : decode cX10_init 48 = .ok (.aload_n 0, 1) := nq_d dX10_init_0_g (n := 22) rfl
theorem dX10_init_49 : decode cX10_init 49 = .ok (.new 23, 3) := nq_d dX10_init_0_g (n := 23) rfl
theorem dX10_init_52 : decode cX10_init 52 = .ok (.dup, 1) := nq_d dX10_init_0_g (n := 24) rfl
theorem dX10_init_53 : decode cX10_init 53 = .ok (.invokespecial 25, 3) := nq_d dX10_init_0_g (n := 25) rfl
theorem dX10_init_56 : decode cX10_init 56 = .ok (.putfield 33, 3) := nq_d dX10_init_0_g (n := 26) rfl
theorem dX10_init_59 : decode cX10_init 59 = .ok (.aload_n 0, 1) := nq_d dX10_init_0_g (n := 27) rfl
theorem dX10_init_60 : decode cX10_init 60 = .ok (.new 36, 3) := nq_d dX10_init_0_g (n := 28) rfl
theorem dX10_init_63 : decode cX10_init 63 = .ok (.dup, 1) := nq_d dX10_init_0_g (n := 29) rfl
theorem dX10_init_64 : decode cX10_init 64 = .ok (.invokespecial 38, 3) := nq_d dX10_init_0_g (n := 30) rfl
theorem dX10_init_67 : decode cX10_init 67 = .ok (.putfield 39, 3) := nq_d dX10_init_0_g (n := 31) rfl
theorem dX10_init_70 : decode cX10_init 70 = .ok (.aload_n 0, 1) := nq_d dX10_init_0_g (n := 32) rfl
theorem dX10_init_71 : decode cX10_init 71 = .ok (.new 43, 3) := nq_d dX10_init_0_g (n := 33) rfl
theorem dX10_init_74 : decode cX10_init 74 = .ok (.dup, 1) := nq_d dX10_init_0_g (n := 34) rfl
theorem dX10_init_75 : decode cX10_init 75 = .ok (.invokespecial 45, 3) := nq_d dX10_init_0_g (n := 35) rfl
theorem dX10_init_78 : decode cX10_init 78 = .ok (.putfield 46, 3) := nq_d dX10_init_0_g (n := 36) rfl
theorem dX10_init_81 : decode cX10_init 81 = .ok (.aload_n 0, 1) := nq_d dX10_init_0_g (n := 37) rfl
theorem dX10_init_82 : decode cX10_init 82 = .ok (.new 50, 3) := nq_d dX10_init_0_g (n := 38) rfl
theorem dX10_init_85 : decode cX10_init 85 = .ok (.dup, 1) := nq_d dX10_init_0_g (n := 39) rfl
noncomputable def dX10_init_86_l : List (Nat × Instr × Nat) := [(86, .invokespecial 52, 3), (89, .putfield 53, 3), (92, .aload_n 0, 1), (93, .iconst (-1), 1), (94, .putfield 57, 3), (97, .aload_n 0, 1), (98, .iconst 0, 1), (99, .putfield 61, 3), (102, .aload_n 0, 1), (103, .getfield 10, 3), (106, .invokevirtual 64, 3), (109, .return_, 1)]
set_option maxRecDepth 100000 in
theorem dX10_init_86_g : dX10_init_86_l.all (fun x => decide (decode cX10_init x.1 = .ok x.2)) = true := by decide +kernel
theorem dX10_init_86 : decode cX10_init 86 = .ok (.invokespecial 52, 3) := nq_d dX10_init_86_g (n := 0) rfl
theorem dX10_init_89 : decode cX10_init 89 = .ok (.putfield 53, 3) := nq_d dX10_init_86_g (n := 1) rfl
theorem dX10_init_92 : decode cX10_init 92 = .ok (.aload_n 0, 1) := nq_d dX10_init_86_g (n := 2) rfl
theorem dX10_init_93 : decode cX10_init 93 = .ok (.iconst (-1), 1) := nq_d dX10_init_86_g (n := 3) rfl
theorem dX10_init_94 : decode cX10_init 94 = .ok (.putfield 57, 3) := nq_d dX10_init_86_g (n := 4) rfl
theorem dX10_init_97 : decode cX10_init 97 = .ok (.aload_n 0, 1) := nq_d dX10_init_86_g (n := 5) rfl
theorem dX10_init_98 : decode cX10_init 98 = .ok (.iconst 0, 1) := nq_d dX10_init_86_g (n := 6) rfl
theorem dX10_init_99 : decode cX10_init 99 = .ok (.putfield 61, 3) := nq_d dX10_init_86_g (n := 7) rfl
theorem dX10_init_102 : decode cX10_init 102 = .ok (.aload_n 0, 1) := nq_d dX10_init_86_g (n := 8) rfl
theorem dX10_init_103 : decode cX10_init 103 = .ok (.getfield 10, 3) := nq_d dX10_init_86_g (n := 9) rfl
theorem dX10_init_106 : decode cX10_init 106 = .ok (.invokevirtual 64, 3) := nq_d dX10_init_86_g (n := 10) rfl
theorem dX10_init_109 : decode cX10_init 109 = .ok (.return_, 1) := nq_d dX10_init_86_g (n := 11) rfl
set_option maxRecDepth 100000 in
theorem ggX10_feed_X10_within : GoodIn wsX10_feed wsX10_within := goodIn_sub (sub_c (nq_m (n := 6) rfl) sub_n) (by decide +kernel)
set_option maxRecDepth 100000 in
theorem gX10_feed_X10_within : GoodIn wsX10_feed (va_wsS RX10 67 yX10_within wsX10_within) := goodIn_app (goodIn_sub (sub_c (nq_m (n := 3) rfl) (sub_c (nq_m (n := 4) rfl) (sub_c (nq_m (n := 5) rfl) sub_n))) (by decide +kernel)) ggX10_feed_X10_within
set_option maxRecDepth 100000 in
theorem ggX10_feed_X8_append : GoodIn wsX10_feed wsX8_append := goodIn_sub (sub_c (nq_m (n := 11) rfl) (sub_c (nq_m (n := 12) rfl) (sub_c (nq_m (n := 13) rfl) (sub_c (nq_m (n := 24) rfl) (sub_c (nq_m (n := 25) rfl) (sub_c (nq_m (n := 26) rfl) (sub_c (nq_m (n := 27) rfl) (sub_c (nq_m (n := 28) rfl) (sub_c (nq_m (n := 29) rfl) (sub_c (nq_m (n := 30) rfl) (sub_c (nq_m (n := 31) rfl) sub_n))))))))))) (by decide +kernel)
set_option maxRecDepth 100000 in
theorem gX10_feed_X8_append : GoodIn wsX10_feed (wsV RX10 74 RX8 yX8_append wsX8_append) := goodIn_app (goodIn_sub (sub_c (nq_m (n := 7) rfl) (sub_c (nq_m (n := 8) rfl) (sub_c (nq_m (n := 9) rfl) (sub_c (nq_m (n := 10) rfl) sub_n)))) (by decide +kernel)) ggX10_feed_X8_append
noncomputable def dX10_feed_0_l : List (Nat × Instr × Nat) := [(0, .iload_n 1, 1), (1, .iconst 1, 1), (2, .bipush 8, 2), (4, .invokestatic 67, 3), (7, .ifCond .ne 7, 3), (10, .sipush (-1002), 3), (13, .ireturn, 1), (14, .aload_n 0, 1), (15, .getfield 19, 3), (18, .getfield 71, 3), (21, .iload_n 1, 1), (22, .iadd, 1), (23, .sipush 240, 3), (26, .if_icmp .le 7, 3), (29, .sipush (-1004), 3), (32, .ireturn, 1), (33, .aload_n 0, 1), (34, .getfield 19, 3), (37, .iload_n 1, 1), (38, .lload_n 2, 1), (39, .invokevirtual 74, 3), (42, .ireturn, 1)]
set_option maxRecDepth 100000 in
theorem dX10_feed_0_g : dX10_feed_0_l.all (fun x => decide (decode cX10_feed x.1 = .ok x.2)) = true := by decide +kernel
theorem dX10_feed_0 : decode cX10_feed 0 = .ok (.iload_n 1, 1) := nq_d dX10_feed_0_g (n := 0) rfl
theorem dX10_feed_1 : decode cX10_feed 1 = .ok (.iconst 1, 1) := nq_d dX10_feed_0_g (n := 1) rfl
theorem dX10_feed_2 : decode cX10_feed 2 = .ok (.bipush 8, 2) := nq_d dX10_feed_0_g (n := 2) rfl
theorem dX10_feed_4 : decode cX10_feed 4 = .ok (.invokestatic 67, 3) := nq_d dX10_feed_0_g (n := 3) rfl
theorem dX10_feed_7 : decode cX10_feed 7 = .ok (.ifCond .ne 7, 3) := nq_d dX10_feed_0_g (n := 4) rfl
theorem dX10_feed_10 : decode cX10_feed 10 = .ok (.sipush (-1002), 3) := nq_d dX10_feed_0_g (n := 5) rfl
theorem dX10_feed_13 : decode cX10_feed 13 = .ok (.ireturn, 1) := nq_d dX10_feed_0_g (n := 6) rfl
theorem dX10_feed_14 : decode cX10_feed 14 = .ok (.aload_n 0, 1) := nq_d dX10_feed_0_g (n := 7) rfl
theorem dX10_feed_15 : decode cX10_feed 15 = .ok (.getfield 19, 3) := nq_d dX10_feed_0_g (n := 8) rfl
theorem dX10_feed_18 : decode cX10_feed 18 = .ok (.getfield 71, 3) := nq_d dX10_feed_0_g (n := 9) rfl
theorem dX10_feed_21 : decode cX10_feed 21 = .ok (.iload_n 1, 1) := nq_d dX10_feed_0_g (n := 10) rfl
theorem dX10_feed_22 : decode cX10_feed 22 = .ok (.iadd, 1) := nq_d dX10_feed_0_g (n := 11) rfl
theorem dX10_feed_23 : decode cX10_feed 23 = .ok (.sipush 240, 3) := nq_d dX10_feed_0_g (n := 12) rfl
theorem dX10_feed_26 : decode cX10_feed 26 = .ok (.if_icmp .le 7, 3) := nq_d dX10_feed_0_g (n := 13) rfl
theorem dX10_feed_29 : decode cX10_feed 29 = .ok (.sipush (-1004), 3) := nq_d dX10_feed_0_g (n := 14) rfl
theorem dX10_feed_32 : decode cX10_feed 32 = .ok (.ireturn, 1) := nq_d dX10_feed_0_g (n := 15) rfl
theorem dX10_feed_33 : decode cX10_feed 33 = .ok (.aload_n 0, 1) := nq_d dX10_feed_0_g (n := 16) rfl
theorem dX10_feed_34 : decode cX10_feed 34 = .ok (.getfield 19, 3) := nq_d dX10_feed_0_g (n := 17) rfl
theorem dX10_feed_37 : decode cX10_feed 37 = .ok (.iload_n 1, 1) := nq_d dX10_feed_0_g (n := 18) rfl
theorem dX10_feed_38 : decode cX10_feed 38 = .ok (.lload_n 2, 1) := nq_d dX10_feed_0_g (n := 19) rfl
theorem dX10_feed_39 : decode cX10_feed 39 = .ok (.invokevirtual 74, 3) := nq_d dX10_feed_0_g (n := 20) rfl
theorem dX10_feed_42 : decode cX10_feed 42 = .ok (.ireturn, 1) := nq_d dX10_feed_0_g (n := 21) rfl
set_option maxRecDepth 100000 in
theorem ggX10_hall_X8_read : GoodIn wsX10_hall wsX8_read := goodIn_sub (sub_c (nq_m (n := 14) rfl) (sub_c (nq_m (n := 15) rfl) (sub_c (nq_m (n := 16) rfl) (sub_c (nq_m (n := 17) rfl) (sub_c (nq_m (n := 18) rfl) (sub_c (nq_m (n := 19) rfl) (sub_c (nq_m (n := 20) rfl) (sub_c (nq_m (n := 21) rfl) (sub_c (nq_m (n := 22) rfl) (sub_c (nq_m (n := 23) rfl) (sub_c (nq_m (n := 24) rfl) (sub_c (nq_m (n := 25) rfl) (sub_c (nq_m (n := 26) rfl) (sub_c (nq_m (n := 27) rfl) (sub_c (nq_m (n := 28) rfl) (sub_c (nq_m (n := 29) rfl) (sub_c (nq_m (n := 30) rfl) (sub_c (nq_m (n := 31) rfl) (sub_c (nq_m (n := 32) rfl) (sub_c (nq_m (n := 33) rfl) (sub_c (nq_m (n := 34) rfl) (sub_c (nq_m (n := 35) rfl) (sub_c (nq_m (n := 36) rfl) (sub_c (nq_m (n := 37) rfl) (sub_c (nq_m (n := 38) rfl) (sub_c (nq_m (n := 39) rfl) (sub_c (nq_m (n := 40) rfl) (sub_c (nq_m (n := 41) rfl) (sub_c (nq_m (n := 42) rfl) (sub_c (nq_m (n := 43) rfl) (sub_c (nq_m (n := 44) rfl) (sub_c (nq_m (n := 13) rfl) (sub_c (nq_m (n := 45) rfl) (sub_c (nq_m (n := 46) rfl) (sub_c (nq_m (n := 47) rfl) (sub_c (nq_m (n := 48) rfl) (sub_c (nq_m (n := 49) rfl) (sub_c (nq_m (n := 50) rfl) (sub_c (nq_m (n := 51) rfl) (sub_c (nq_m (n := 52) rfl) (sub_c (nq_m (n := 53) rfl) (sub_c (nq_m (n := 54) rfl) (sub_c (nq_m (n := 55) rfl) (sub_c (nq_m (n := 56) rfl) (sub_c (nq_m (n := 57) rfl) (sub_c (nq_m (n := 58) rfl) (sub_c (nq_m (n := 59) rfl) (sub_c (nq_m (n := 60) rfl) (sub_c (nq_m (n := 61) rfl) (sub_c (nq_m (n := 62) rfl) (sub_c (nq_m (n := 63) rfl) (sub_c (nq_m (n := 64) rfl) (sub_c (nq_m (n := 65) rfl) (sub_c (nq_m (n := 66) rfl) (sub_c (nq_m (n := 67) rfl) (sub_c (nq_m (n := 68) rfl) (sub_c (nq_m (n := 69) rfl) (sub_c (nq_m (n := 70) rfl) (sub_c (nq_m (n := 71) rfl) (sub_c (nq_m (n := 72) rfl) (sub_c (nq_m (n := 73) rfl) (sub_c (nq_m (n := 74) rfl) (sub_c (nq_m (n := 75) rfl) (sub_c (nq_m (n := 76) rfl) (sub_c (nq_m (n := 77) rfl) (sub_c (nq_m (n := 78) rfl) (sub_c (nq_m (n := 79) rfl) (sub_c (nq_m (n := 80) rfl) (sub_c (nq_m (n := 81) rfl) (sub_c (nq_m (n := 82) rfl) (sub_c (nq_m (n := 83) rfl) (sub_c (nq_m (n := 84) rfl) (sub_c (nq_m (n := 85) rfl) (sub_c (nq_m (n := 86) rfl) (sub_c (nq_m (n := 87) rfl) (sub_c (nq_m (n := 88) rfl) (sub_c (nq_m (n := 89) rfl) (sub_c (nq_m (n := 90) rfl) (sub_c (nq_m (n := 91) rfl) (sub_c (nq_m (n := 92) rfl) (sub_c (nq_m (n := 93) rfl) (sub_c (nq_m (n := 94) rfl) (sub_c (nq_m (n := 95) rfl) (sub_c (nq_m (n := 96) rfl) (sub_c (nq_m (n := 97) rfl) (sub_c (nq_m (n := 98) rfl) (sub_c (nq_m (n := 99) rfl) (sub_c (nq_m (n := 100) rfl) (sub_c (nq_m (n := 101) rfl) (sub_c (nq_m (n := 102) rfl) (sub_c (nq_m (n := 103) rfl) (sub_c (nq_m (n := 104) rfl) (sub_c (nq_m (n := 105) rfl) (sub_c (nq_m (n := 106) rfl) (sub_c (nq_m (n := 107) rfl) (sub_c (nq_m (n := 108) rfl) (sub_c (nq_m (n := 109) rfl) (sub_c (nq_m (n := 110) rfl) (sub_c (nq_m (n := 111) rfl) (sub_c (nq_m (n := 112) rfl) (sub_c (nq_m (n := 113) rfl) (sub_c (nq_m (n := 114) rfl) (sub_c (nq_m (n := 115) rfl) (sub_c (nq_m (n := 116) rfl) (sub_c (nq_m (n := 117) rfl) (sub_c (nq_m (n := 118) rfl) (sub_c (nq_m (n := 119) rfl) (sub_c (nq_m (n := 120) rfl) (sub_c (nq_m (n := 121) rfl) (sub_c (nq_m (n := 122) rfl) (sub_c (nq_m (n := 123) rfl) (sub_c (nq_m (n := 124) rfl) (sub_c (nq_m (n := 125) rfl) (sub_c (nq_m (n := 126) rfl) (sub_c (nq_m (n := 127) rfl) (sub_c (nq_m (n := 128) rfl) (sub_c (nq_m (n := 129) rfl) (sub_c (nq_m (n := 130) rfl) (sub_c (nq_m (n := 131) rfl) (sub_c (nq_m (n := 132) rfl) (sub_c (nq_m (n := 133) rfl) (sub_c (nq_m (n := 134) rfl) (sub_c (nq_m (n := 135) rfl) (sub_c (nq_m (n := 136) rfl) (sub_c (nq_m (n := 137) rfl) (sub_c (nq_m (n := 138) rfl) (sub_c (nq_m (n := 139) rfl) (sub_c (nq_m (n := 140) rfl) (sub_c (nq_m (n := 141) rfl) (sub_c (nq_m (n := 142) rfl) (sub_c (nq_m (n := 143) rfl) (sub_c (nq_m (n := 144) rfl) (sub_c (nq_m (n := 145) rfl) (sub_c (nq_m (n := 146) rfl) (sub_c (nq_m (n := 147) rfl) (sub_c (nq_m (n := 148) rfl) (sub_c (nq_m (n := 149) rfl) (sub_c (nq_m (n := 150) rfl) (sub_c (nq_m (n := 151) rfl) (sub_c (nq_m (n := 152) rfl) (sub_c (nq_m (n := 153) rfl) (sub_c (nq_m (n := 154) rfl) (sub_c (nq_m (n := 155) rfl) (sub_c (nq_m (n := 184) rfl) (sub_c (nq_m (n := 185) rfl) (sub_c (nq_m (n := 186) rfl) (sub_c (nq_m (n := 187) rfl) (sub_c (nq_m (n := 188) rfl) (sub_c (nq_m (n := 189) rfl) (sub_c (nq_m (n := 190) rfl) (sub_c (nq_m (n := 191) rfl) (sub_c (nq_m (n := 177) rfl) (sub_c (nq_m (n := 178) rfl) (sub_c (nq_m (n := 179) rfl) (sub_c (nq_m (n := 180) rfl) (sub_c (nq_m (n := 181) rfl) (sub_c (nq_m (n := 182) rfl) (sub_c (nq_m (n := 183) rfl) sub_n)))))))))))))))))))))))))))))))))))))))))))))))))))))))))))))))))))))))))))))))))))))))))))))))))))))))))))))))))))))))))))))))))))))))))))))))))))))))))))))) (by decide +kernel)
set_option maxRecDepth 100000 in
theorem gX10_hall_X8_read : GoodIn wsX10_hall (wsV RX10 87 RX8 yX8_read wsX8_read) := goodIn_app (goodIn_sub (sub_c (nq_m (n := 10) rfl) (sub_c (nq_m (n := 11) rfl) (sub_c (nq_m (n := 12) rfl) (sub_c (nq_m (n := 13) rfl) sub_n)))) (by decide +kernel)) ggX10_hall_X8_read
set_option maxRecDepth 100000 in
theorem ggX10_hall_X8_changeDraft : GoodIn wsX10_hall wsX8_changeDraft := goodIn_sub (sub_c (nq_m (n := 159) rfl) (sub_c (nq_m (n := 15) rfl) (sub_c (nq_m (n := 184) rfl) (sub_c (nq_m (n := 185) rfl) (sub_c (nq_m (n := 186) rfl) (sub_c (nq_m (n := 187) rfl) (sub_c (nq_m (n := 188) rfl) (sub_c (nq_m (n := 189) rfl) (sub_c (nq_m (n := 190) rfl) (sub_c (nq_m (n := 191) rfl) sub_n)))))))))) (by decide +kernel)
set_option maxRecDepth 100000 in
theorem gX10_hall_X8_changeDraft : GoodIn wsX10_hall (wsV RX10 91 RX8 yX8_changeDraft wsX8_changeDraft) := goodIn_app (goodIn_sub (sub_c (nq_m (n := 156) rfl) (sub_c (nq_m (n := 157) rfl) (sub_c (nq_m (n := 158) rfl) (sub_c (nq_m (n := 13) rfl) sub_n)))) (by decide +kernel)) ggX10_hall_X8_changeDraft
noncomputable def dX10_hall_0_l : List (Nat × Instr × Nat) := [(0, .aload_n 0, 1), (1, .getfield 26, 3), (4, .getfield 78, 3), (7, .getfield 82, 3), (10, .ifCond .le 7, 3), (13, .sipush (-1003), 3), (16, .ireturn, 1), (17, .aload_n 0, 1), (18, .getfield 19, 3), (21, .invokevirtual 87, 3), (24, .istore_n 1, 1), (25, .iload_n 1, 1), (26, .ifCond .eq 8, 3), (29, .bipush (-10), 2), (31, .iload_n 1, 1), (32, .isub, 1), (33, .ireturn, 1), (34, .aload_n 0, 1), (35, .aload_n 0, 1), (36, .getfield 19, 3), (39, .aload_n 0, 1), (40, .getfield 10, 3), (43, .invokevirtual 91, 3), (46, .putfield 10, 3), (49, .aload_n 0, 1), (50, .getfield 30, 3), (53, .iconst 0, 1), (54, .putfield 95, 3), (57, .aload_n 0, 1), (58, .getfield 33, 3), (61, .iconst 0, 1), (62, .putfield 95, 3), (65, .aload_n 0, 1), (66, .getfield 10, 3), (69, .getfield 99, 3), (72, .ireturn, 1)]
set_option maxRecDepth 100000 in
theorem dX10_hall_0_g : dX10_hall_0_l.all (fun x => decide (decode cX10_hall x.1 = .ok x.2)) = true := by decide +kernel
theorem dX10_hall_0 : decode cX10_hall 0 = .ok (.aload_n 0, 1) := nq_d dX10_hall_0_g (n := 0) rfl
theorem dX10_hall_1 : decode cX10_hall 1 = .ok (.getfield 26, 3) := nq_d dX10_hall_0_g (n := 1) rfl
theorem dX10_hall_4 : decode cX10_hall 4 = .ok (.getfield 78, 3) := nq_d dX10_hall_0_g (n := 2) rfl
theorem dX10_hall_7 : decode cX10_hall 7 = .ok (.getfield 82, 3) := nq_d dX10_hall_0_g (n := 3) rfl
theorem dX10_hall_10 : decode cX10_hall 10 = .ok (.ifCond .le 7, 3) := nq_d dX10_hall_0_g (n := 4) rfl
theorem dX10_hall_13 : decode cX10_hall 13 = .ok (.sipush (-1003), 3) := nq_d dX10_hall_0_g (n := 5) rfl
theorem dX10_hall_16 : decode cX10_hall 16 = .ok (.ireturn, 1) := nq_d dX10_hall_0_g (n := 6) rfl
theorem dX10_hall_17 : decode cX10_hall 17 = .ok (.aload_n 0, 1) := nq_d dX10_hall_0_g (n := 7) rfl
theorem dX10_hall_18 : decode cX10_hall 18 = .ok (.getfield 19, 3) := nq_d dX10_hall_0_g (n := 8) rfl
theorem dX10_hall_21 : decode cX10_hall 21 = .ok (.invokevirtual 87, 3) := nq_d dX10_hall_0_g (n := 9) rfl
theorem dX10_hall_24 : decode cX10_hall 24 = .ok (.istore_n 1, 1) := nq_d dX10_hall_0_g (n := 10) rfl
theorem dX10_hall_25 : decode cX10_hall 25 = .ok (.iload_n 1, 1) := nq_d dX10_hall_0_g (n := 11) rfl
theorem dX10_hall_26 : decode cX10_hall 26 = .ok (.ifCond .eq 8, 3) := nq_d dX10_hall_0_g (n := 12) rfl
theorem dX10_hall_29 : decode cX10_hall 29 = .ok (.bipush (-10), 2) := nq_d dX10_hall_0_g (n := 13) rfl
theorem dX10_hall_31 : decode cX10_hall 31 = .ok (.iload_n 1, 1) := nq_d dX10_hall_0_g (n := 14) rfl
theorem dX10_hall_32 : decode cX10_hall 32 = .ok (.isub, 1) := nq_d dX10_hall_0_g (n := 15) rfl
theorem dX10_hall_33 : decode cX10_hall 33 = .ok (.ireturn, 1) := nq_d dX10_hall_0_g (n := 16) rfl
theorem dX10_hall_34 : decode cX10_hall 34 = .ok (.aload_n 0, 1) := nq_d dX10_hall_0_g (n := 17) rfl
theorem dX10_hall_35 : decode cX10_hall 35 = .ok (.aload_n 0, 1) := nq_d dX10_hall_0_g (n := 18) rfl
theorem dX10_hall_36 : decode cX10_hall 36 = .ok (.getfield 19, 3) := nq_d dX10_hall_0_g (n := 19) rfl
theorem dX10_hall_39 : decode cX10_hall 39 = .ok (.aload_n 0, 1) := nq_d dX10_hall_0_g (n := 20) rfl
theorem dX10_hall_40 : decode cX10_hall 40 = .ok (.getfield 10, 3) := nq_d dX10_hall_0_g (n := 21) rfl
theorem dX10_hall_43 : decode cX10_hall 43 = .ok (.invokevirtual 91, 3) := nq_d dX10_hall_0_g (n := 22) rfl
theorem dX10_hall_46 : decode cX10_hall 46 = .ok (.putfield 10, 3) := nq_d dX10_hall_0_g (n := 23) rfl
theorem dX10_hall_49 : decode cX10_hall 49 = .ok (.aload_n 0, 1) := nq_d dX10_hall_0_g (n := 24) rfl
theorem dX10_hall_50 : decode cX10_hall 50 = .ok (.getfield 30, 3) := nq_d dX10_hall_0_g (n := 25) rfl
theorem dX10_hall_53 : decode cX10_hall 53 = .ok (.iconst 0, 1) := nq_d dX10_hall_0_g (n := 26) rfl
theorem dX10_hall_54 : decode cX10_hall 54 = .ok (.putfield 95, 3) := nq_d dX10_hall_0_g (n := 27) rfl
theorem dX10_hall_57 : decode cX10_hall 57 = .ok (.aload_n 0, 1) := nq_d dX10_hall_0_g (n := 28) rfl
theorem dX10_hall_58 : decode cX10_hall 58 = .ok (.getfield 33, 3) := nq_d dX10_hall_0_g (n := 29) rfl
theorem dX10_hall_61 : decode cX10_hall 61 = .ok (.iconst 0, 1) := nq_d dX10_hall_0_g (n := 30) rfl
theorem dX10_hall_62 : decode cX10_hall 62 = .ok (.putfield 95, 3) := nq_d dX10_hall_0_g (n := 31) rfl
theorem dX10_hall_65 : decode cX10_hall 65 = .ok (.aload_n 0, 1) := nq_d dX10_hall_0_g (n := 32) rfl
theorem dX10_hall_66 : decode cX10_hall 66 = .ok (.getfield 10, 3) := nq_d dX10_hall_0_g (n := 33) rfl
theorem dX10_hall_69 : decode cX10_hall 69 = .ok (.getfield 99, 3) := nq_d dX10_hall_0_g (n := 34) rfl
theorem dX10_hall_72 : decode cX10_hall 72 = .ok (.ireturn, 1) := nq_d dX10_hall_0_g (n := 35) rfl
noncomputable def dX10_fault_0_l : List (Nat × Instr × Nat) := [(0, .aload_n 0, 1), (1, .getfield 19, 3), (4, .getfield 102, 3), (7, .ireturn, 1)]
set_option maxRecDepth 100000 in
theorem dX10_fault_0_g : dX10_fault_0_l.all (fun x => decide (decode cX10_fault x.1 = .ok x.2)) = true := by decide +kernel
theorem dX10_fault_0 : decode cX10_fault 0 = .ok (.aload_n 0, 1) := nq_d dX10_fault_0_g (n := 0) rfl
theorem dX10_fault_1 : decode cX10_fault 1 = .ok (.getfield 19, 3) := nq_d dX10_fault_0_g (n := 1) rfl
theorem dX10_fault_4 : decode cX10_fault 4 = .ok (.getfield 102, 3) := nq_d dX10_fault_0_g (n := 2) rfl
theorem dX10_fault_7 : decode cX10_fault 7 = .ok (.ireturn, 1) := nq_d dX10_fault_0_g (n := 3) rfl
set_option maxRecDepth 100000 in
theorem ggX10_peg_X3_hasPeg : GoodIn wsX10_peg wsX3_hasPeg := goodIn_sub (sub_c (nq_m (n := 10) rfl) (sub_c (nq_m (n := 11) rfl) (sub_c (nq_m (n := 29) rfl) (sub_c (nq_m (n := 30) rfl) (sub_c (nq_m (n := 31) rfl) (sub_c (nq_m (n := 32) rfl) (sub_c (nq_m (n := 33) rfl) (sub_c (nq_m (n := 34) rfl) (sub_c (nq_m (n := 35) rfl) sub_n))))))))) (by decide +kernel)
set_option maxRecDepth 100000 in
theorem gX10_peg_X3_hasPeg : GoodIn wsX10_peg (wsV RX10 105 RX3 yX3_hasPeg wsX3_hasPeg) := goodIn_app (goodIn_sub (sub_c (nq_m (n := 6) rfl) (sub_c (nq_m (n := 7) rfl) (sub_c (nq_m (n := 8) rfl) (sub_c (nq_m (n := 9) rfl) sub_n)))) (by decide +kernel)) ggX10_peg_X3_hasPeg
set_option maxRecDepth 100000 in
theorem ggX10_peg_X2_ownerOn : GoodIn wsX10_peg wsX2_ownerOn := goodIn_sub (sub_c (nq_m (n := 16) rfl) (sub_c (nq_m (n := 17) rfl) (sub_c (nq_m (n := 18) rfl) (sub_c (nq_m (n := 41) rfl) (sub_c (nq_m (n := 42) rfl) (sub_c (nq_m (n := 43) rfl) (sub_c (nq_m (n := 44) rfl) (sub_c (nq_m (n := 45) rfl) (sub_c (nq_m (n := 46) rfl) (sub_c (nq_m (n := 47) rfl) (sub_c (nq_m (n := 48) rfl) sub_n))))))))))) (by decide +kernel)
set_option maxRecDepth 100000 in
theorem gX10_peg_X2_ownerOn : GoodIn wsX10_peg (wsV RX10 120 RX2 yX2_ownerOn wsX2_ownerOn) := goodIn_app (goodIn_sub (sub_c (nq_m (n := 12) rfl) (sub_c (nq_m (n := 13) rfl) (sub_c (nq_m (n := 14) rfl) (sub_c (nq_m (n := 15) rfl) sub_n)))) (by decide +kernel)) ggX10_peg_X2_ownerOn
noncomputable def dX10_peg_0_l : List (Nat × Instr × Nat) := [(0, .aload_n 0, 1), (1, .getfield 10, 3), (4, .iload_n 1, 1), (5, .invokevirtual 105, 3), (8, .ifCond .ne 7, 3), (11, .sipush (-1001), 3), (14, .ireturn, 1), (15, .iload_n 2, 1), (16, .tableswitch 60 0 2 #[28, 38, 48], 28), (44, .aload_n 0, 1), (45, .getfield 10, 3), (48, .getfield 109, 3), (51, .iload_n 1, 1), (52, .iaload, 1), (53, .ireturn, 1), (54, .aload_n 0, 1), (55, .getfield 10, 3), (58, .getfield 113, 3), (61, .iload_n 1, 1), (62, .iaload, 1), (63, .ireturn, 1), (64, .aload_n 0, 1), (65, .getfield 26, 3), (68, .getfield 116, 3), (71, .iload_n 1, 1), (72, .invokevirtual 120, 3), (75, .ireturn, 1), (76, .sipush (-1002), 3), (79, .ireturn, 1)]
set_option maxRecDepth 100000 in
theorem dX10_peg_0_g : dX10_peg_0_l.all (fun x => decide (decode cX10_peg x.1 = .ok x.2)) = true := by decide +kernel
theorem dX10_peg_0 : decode cX10_peg 0 = .ok (.aload_n 0, 1) := nq_d dX10_peg_0_g (n := 0) rfl
theorem dX10_peg_1 : decode cX10_peg 1 = .ok (.getfield 10, 3) := nq_d dX10_peg_0_g (n := 1) rfl
theorem dX10_peg_4 : decode cX10_peg 4 = .ok (.iload_n 1, 1) := nq_d dX10_peg_0_g (n := 2) rfl
theorem dX10_peg_5 : decode cX10_peg 5 = .ok (.invokevirtual 105, 3) := nq_d dX10_peg_0_g (n := 3) rfl
theorem dX10_peg_8 : decode cX10_peg 8 = .ok (.ifCond .ne 7, 3) := nq_d dX10_peg_0_g (n := 4) rfl
theorem dX10_peg_11 : decode cX10_peg 11 = .ok (.sipush (-1001), 3) := nq_d dX10_peg_0_g (n := 5) rfl
theorem dX10_peg_14 : decode cX10_peg 14 = .ok (.ireturn, 1) := nq_d dX10_peg_0_g (n := 6) rfl
theorem dX10_peg_15 : decode cX10_peg 15 = .ok (.iload_n 2, 1) := nq_d dX10_peg_0_g (n := 7) rfl
theorem dX10_peg_16 : decode cX10_peg 16 = .ok (.tableswitch 60 0 2 #[28, 38, 48], 28) := nq_d dX10_peg_0_g (n := 8) rfl
theorem dX10_peg_44 : decode cX10_peg 44 = .ok (.aload_n 0, 1) := nq_d dX10_peg_0_g (n := 9) rfl
theorem dX10_peg_45 : decode cX10_peg 45 = .ok (.getfield 10, 3) := nq_d dX10_peg_0_g (n := 10) rfl
theorem dX10_peg_48 : decode cX10_peg 48 = .ok (.getfield 109, 3) := nq_d dX10_peg_0_g (n := 11) rfl
theorem dX10_peg_51 : decode cX10_peg 51 = .ok (.iload_n 1, 1) := nq_d dX10_peg_0_g (n := 12) rfl
theorem dX10_peg_52 : decode cX10_peg 52 = .ok (.iaload, 1) := nq_d dX10_peg_0_g (n := 13) rfl
theorem dX10_peg_53 : decode cX10_peg 53 = .ok (.ireturn, 1) := nq_d dX10_peg_0_g (n := 14) rfl
theorem dX10_peg_54 : decode cX10_peg 54 = .ok (.aload_n 0, 1) := nq_d dX10_peg_0_g (n := 15) rfl
theorem dX10_peg_55 : decode cX10_peg 55 = .ok (.getfield 10, 3) := nq_d dX10_peg_0_g (n := 16) rfl
theorem dX10_peg_58 : decode cX10_peg 58 = .ok (.getfield 113, 3) := nq_d dX10_peg_0_g (n := 17) rfl
theorem dX10_peg_61 : decode cX10_peg 61 = .ok (.iload_n 1, 1) := nq_d dX10_peg_0_g (n := 18) rfl
theorem dX10_peg_62 : decode cX10_peg 62 = .ok (.iaload, 1) := nq_d dX10_peg_0_g (n := 19) rfl
theorem dX10_peg_63 : decode cX10_peg 63 = .ok (.ireturn, 1) := nq_d dX10_peg_0_g (n := 20) rfl
theorem dX10_peg_64 : decode cX10_peg 64 = .ok (.aload_n 0, 1) := nq_d dX10_peg_0_g (n := 21) rfl
theorem dX10_peg_65 : decode cX10_peg 65 = .ok (.getfield 26, 3) := nq_d dX10_peg_0_g (n := 22) rfl
theorem dX10_peg_68 : decode cX10_peg 68 = .ok (.getfield 116, 3) := nq_d dX10_peg_0_g (n := 23) rfl
theorem dX10_peg_71 : decode cX10_peg 71 = .ok (.iload_n 1, 1) := nq_d dX10_peg_0_g (n := 24) rfl
theorem dX10_peg_72 : decode cX10_peg 72 = .ok (.invokevirtual 120, 3) := nq_d dX10_peg_0_g (n := 25) rfl
theorem dX10_peg_75 : decode cX10_peg 75 = .ok (.ireturn, 1) := nq_d dX10_peg_0_g (n := 26) rfl
theorem dX10_peg_76 : decode cX10_peg 76 = .ok (.sipush (-1002), 3) := nq_d dX10_peg_0_g (n := 27) rfl
theorem dX10_peg_79 : decode cX10_peg 79 = .ok (.ireturn, 1) := nq_d dX10_peg_0_g (n := 28) rfl
set_option maxRecDepth 100000 in
theorem ggX10_odds_X10_within : GoodIn wsX10_odds wsX10_within := goodIn_sub (sub_c (nq_m (n := 5) rfl) sub_n) (by decide +kernel)
set_option maxRecDepth 100000 in
theorem gX10_odds_X10_within : GoodIn wsX10_odds (va_wsS RX10 67 yX10_within wsX10_within) := goodIn_app (goodIn_sub (sub_c (nq_m (n := 2) rfl) (sub_c (nq_m (n := 3) rfl) (sub_c (nq_m (n := 4) rfl) sub_n))) (by decide +kernel)) ggX10_odds_X10_within
set_option maxRecDepth 100000 in
theorem ggX10_odds_X3_shareOf : GoodIn wsX10_odds wsX3_shareOf := goodIn_sub (sub_c (nq_m (n := 10) rfl) (sub_c (nq_m (n := 11) rfl) (sub_c (nq_m (n := 3) rfl) (sub_c (nq_m (n := 4) rfl) (sub_c (nq_m (n := 5) rfl) (sub_c (nq_m (n := 22) rfl) (sub_c (nq_m (n := 23) rfl) (sub_c (nq_m (n := 24) rfl) (sub_c (nq_m (n := 25) rfl) (sub_c (nq_m (n := 26) rfl) (sub_c (nq_m (n := 27) rfl) (sub_c (nq_m (n := 28) rfl) sub_n)))))))))))) (by decide +kernel)
set_option maxRecDepth 100000 in
theorem gX10_odds_X3_shareOf : GoodIn wsX10_odds (wsV RX10 126 RX3 yX3_shareOf wsX3_shareOf) := goodIn_app (goodIn_sub (sub_c (nq_m (n := 6) rfl) (sub_c (nq_m (n := 7) rfl) (sub_c (nq_m (n := 8) rfl) (sub_c (nq_m (n := 9) rfl) sub_n)))) (by decide +kernel)) ggX10_odds_X3_shareOf
noncomputable def dX10_odds_0_l : List (Nat × Instr × Nat) := [(0, .iload_n 1, 1), (1, .iconst 0, 1), (2, .iconst 3, 1), (3, .invokestatic 67, 3), (6, .ifCond .eq 12, 3), (9, .iload_n 2, 1), (10, .iconst 0, 1), (11, .iconst 2, 1), (12, .invokestatic 67, 3), (15, .ifCond .ne 7, 3), (18, .sipush (-1002), 3), (21, .ireturn, 1), (22, .aload_n 0, 1), (23, .getfield 10, 3), (26, .iload_n 1, 1), (27, .iload_n 2, 1), (28, .invokevirtual 126, 3), (31, .ireturn, 1)]
set_option maxRecDepth 100000 in
theorem dX10_odds_0_g : dX10_odds_0_l.all (fun x => decide (decode cX10_odds x.1 = .ok x.2)) = true := by decide +kernel
theorem dX10_odds_0 : decode cX10_odds 0 = .ok (.iload_n 1, 1) := nq_d dX10_odds_0_g (n := 0) rfl
theorem dX10_odds_1 : decode cX10_odds 1 = .ok (.iconst 0, 1) := nq_d dX10_odds_0_g (n := 1) rfl
theorem dX10_odds_2 : decode cX10_odds 2 = .ok (.iconst 3, 1) := nq_d dX10_odds_0_g (n := 2) rfl
theorem dX10_odds_3 : decode cX10_odds 3 = .ok (.invokestatic 67, 3) := nq_d dX10_odds_0_g (n := 3) rfl
theorem dX10_odds_6 : decode cX10_odds 6 = .ok (.ifCond .eq 12, 3) := nq_d dX10_odds_0_g (n := 4) rfl
theorem dX10_odds_9 : decode cX10_odds 9 = .ok (.iload_n 2, 1) := nq_d dX10_odds_0_g (n := 5) rfl
theorem dX10_odds_10 : decode cX10_odds 10 = .ok (.iconst 0, 1) := nq_d dX10_odds_0_g (n := 6) rfl
theorem dX10_odds_11 : decode cX10_odds 11 = .ok (.iconst 2, 1) := nq_d dX10_odds_0_g (n := 7) rfl
theorem dX10_odds_12 : decode cX10_odds 12 = .ok (.invokestatic 67, 3) := nq_d dX10_odds_0_g (n := 8) rfl
theorem dX10_odds_15 : decode cX10_odds 15 = .ok (.ifCond .ne 7, 3) := nq_d dX10_odds_0_g (n := 9) rfl
theorem dX10_odds_18 : decode cX10_odds 18 = .ok (.sipush (-1002), 3) := nq_d dX10_odds_0_g (n := 10) rfl
theorem dX10_odds_21 : decode cX10_odds 21 = .ok (.ireturn, 1) := nq_d dX10_odds_0_g (n := 11) rfl
theorem dX10_odds_22 : decode cX10_odds 22 = .ok (.aload_n 0, 1) := nq_d dX10_odds_0_g (n := 12) rfl
theorem dX10_odds_23 : decode cX10_odds 23 = .ok (.getfield 10, 3) := nq_d dX10_odds_0_g (n := 13) rfl
theorem dX10_odds_26 : decode cX10_odds 26 = .ok (.iload_n 1, 1) := nq_d dX10_odds_0_g (n := 14) rfl
theorem dX10_odds_27 : decode cX10_odds 27 = .ok (.iload_n 2, 1) := nq_d dX10_odds_0_g (n := 15) rfl
theorem dX10_odds_28 : decode cX10_odds 28 = .ok (.invokevirtual 126, 3) := nq_d dX10_odds_0_g (n := 16) rfl
theorem dX10_odds_31 : decode cX10_odds 31 = .ok (.ireturn, 1) := nq_d dX10_odds_0_g (n := 17) rfl
set_option maxRecDepth 100000 in
theorem ggX10_count_X3_weightOf : GoodIn wsX10_count wsX3_weightOf := goodIn_sub (sub_c (nq_m (n := 20) rfl) (sub_c (nq_m (n := 21) rfl) (sub_c (nq_m (n := 22) rfl) (sub_c (nq_m (n := 23) rfl) (sub_c (nq_m (n := 24) rfl) (sub_c (nq_m (n := 35) rfl) (sub_c (nq_m (n := 36) rfl) (sub_c (nq_m (n := 37) rfl) (sub_c (nq_m (n := 38) rfl) (sub_c (nq_m (n := 39) rfl) (sub_c (nq_m (n := 40) rfl) (sub_c (nq_m (n := 41) rfl) sub_n)))))))))))) (by decide +kernel)
set_option maxRecDepth 100000 in
theorem gX10_count_X3_weightOf : GoodIn wsX10_count (wsV RX10 151 RX3 yX3_weightOf wsX3_weightOf) := goodIn_app (goodIn_sub (sub_c (nq_m (n := 16) rfl) (sub_c (nq_m (n := 17) rfl) (sub_c (nq_m (n := 18) rfl) (sub_c (nq_m (n := 19) rfl) sub_n)))) (by decide +kernel)) ggX10_count_X3_weightOf
noncomputable def dX10_count_0_l : List (Nat × Instr × Nat) := [(0, .iload_n 1, 1), (1, .tableswitch 162 0 10 #[59, 67, 78, 89, 100, 111, 119, 127, 135, 144, 153], 59), (60, .aload_n 0, 1), (61, .getfield 10, 3), (64, .getfield 99, 3), (67, .ireturn, 1), (68, .aload_n 0, 1), (69, .getfield 26, 3), (72, .getfield 116, 3), (75, .getfield 130, 3), (78, .ireturn, 1), (79, .aload_n 0, 1), (80, .getfield 26, 3), (83, .getfield 78, 3), (86, .getfield 82, 3), (89, .ireturn, 1), (90, .aload_n 0, 1), (91, .getfield 26, 3), (94, .getfield 131, 3), (97, .getfield 135, 3), (100, .ireturn, 1), (101, .aload_n 0, 1), (102, .getfield 26, 3), (105, .getfield 138, 3), (108, .getfield 142, 3), (111, .ireturn, 1), (112, .aload_n 0, 1), (113, .getfield 19, 3), (116, .getfield 71, 3), (119, .ireturn, 1), (120, .aload_n 0, 1), (121, .getfield 10, 3), (124, .getfield 145, 3), (127, .ireturn, 1), (128, .aload_n 0, 1), (129, .getfield 10, 3), (132, .getfield 148, 3), (135, .ireturn, 1), (136, .aload_n 0, 1), (137, .getfield 10, 3)]
set_option maxRecDepth 100000 in
theorem dX10_count_0_g : dX10_count_0_l.all (fun x => decide (decode cX10_count x.1 = .ok x.2)) = true := by decide +kernel
theorem dX10_count_0 : decode cX10_count 0 = .ok (.iload_n 1, 1) := nq_d dX10_count_0_g (n := 0) rfl
theorem dX10_count_1 : decode cX10_count 1 = .ok (.tableswitch 162 0 10 #[59, 67, 78, 89, 100, 111, 119, 127, 135, 144, 153], 59) := nq_d dX10_count_0_g (n := 1) rfl
theorem dX10_count_60 : decode cX10_count 60 = .ok (.aload_n 0, 1) := nq_d dX10_count_0_g (n := 2) rfl
theorem dX10_count_61 : decode cX10_count 61 = .ok (.getfield 10, 3) := nq_d dX10_count_0_g (n := 3) rfl
theorem dX10_count_64 : decode cX10_count 64 = .ok (.getfield 99, 3) := nq_d dX10_count_0_g (n := 4) rfl
theorem dX10_count_67 : decode cX10_count 67 = .ok (.ireturn, 1) := nq_d dX10_count_0_g (n := 5) rfl
theorem dX10_count_68 : decode cX10_count 68 = .ok (.aload_n 0, 1) := nq_d dX10_count_0_g (n := 6) rfl
theorem dX10_count_69 : decode cX10_count 69 = .ok (.getfield 26, 3) := nq_d dX10_count_0_g (n := 7) rfl
theorem dX10_count_72 : decode cX10_count 72 = .ok (.getfield 116, 3) := nq_d dX10_count_0_g (n := 8) rfl
theorem dX10_count_75 : decode cX10_count 75 = .ok (.getfield 130, 3) := nq_d dX10_count_0_g (n := 9) rfl
theorem dX10_count_78 : decode cX10_count 78 = .ok (.ireturn, 1) := nq_d dX10_count_0_g (n := 10) rfl
theorem dX10_count_79 : decode cX10_count 79 = .ok (.aload_n 0, 1) := nq_d dX10_count_0_g (n := 11) rfl
theorem dX10_count_80 : decode cX10_count 80 = .ok (.getfield 26, 3) := nq_d dX10_count_0_g (n := 12) rfl
theorem dX10_count_83 : decode cX10_count 83 = .ok (.getfield 78, 3) := nq_d dX10_count_0_g (n := 13) rfl
theorem dX10_count_86 : decode cX10_count 86 = .ok (.getfield 82, 3) := nq_d dX10_count_0_g (n := 14) rfl
theorem dX10_count_89 : decode cX10_count 89 = .ok (.ireturn, 1) := nq_d dX10_count_0_g (n := 15) rfl
theorem dX10_count_90 : decode cX10_count 90 = .ok (.aload_n 0, 1) := nq_d dX10_count_0_g (n := 16) rfl
theorem dX10_count_91 : decode cX10_count 91 = .ok (.getfield 26, 3) := nq_d dX10_count_0_g (n := 17) rfl
theorem dX10_count_94 : decode cX10_count 94 = .ok (.getfield 131, 3) := nq_d dX10_count_0_g (n := 18) rfl
theorem dX10_count_97 : decode cX10_count 97 = .ok (.getfield 135, 3) := nq_d dX10_count_0_g (n := 19) rfl
theorem dX10_count_100 : decode cX10_count 100 = .ok (.ireturn, 1) := nq_d dX10_count_0_g (n := 20) rfl
theorem dX10_count_101 : decode cX10_count 101 = .ok (.aload_n 0, 1) := nq_d dX10_count_0_g (n := 21) rfl
theorem dX10_count_102 : decode cX10_count 102 = .ok (.getfield 26, 3) := nq_d dX10_count_0_g (n := 22) rfl
theorem dX10_count_105 : decode cX10_count 105 = .ok (.getfield 138, 3) := nq_d dX10_count_0_g (n := 23) rfl
theorem dX10_count_108 : decode cX10_count 108 = .ok (.getfield 142, 3) := nq_d dX10_count_0_g (n := 24) rfl
theorem dX10_count_111 : decode cX10_count 111 = .ok (.ireturn, 1) := nq_d dX10_count_0_g (n := 25) rfl
theorem dX10_count_112 : decode cX10_count 112 = .ok (.aload_n 0, 1) := nq_d dX10_count_0_g (n := 26) rfl
theorem dX10_count_113 : decode cX10_count 113 = .ok (.getfield 19, 3) := nq_d dX10_count_0_g (n := 27) rfl
theorem dX10_count_116 : decode cX10_count 116 = .ok (.getfield 71, 3) := nq_d dX10_count_0_g (n := 28) rfl
theorem dX10_count_119 : decode cX10_count 119 = .ok (.ireturn, 1) := nq_d dX10_count_0_g (n := 29) rfl
theorem dX10_count_120 : decode cX10_count 120 = .ok (.aload_n 0, 1) := nq_d dX10_count_0_g (n := 30) rfl
theorem dX10_count_121 : decode cX10_count 121 = .ok (.getfield 10, 3) := nq_d dX10_count_0_g (n := 31) rfl
theorem dX10_count_124 : decode cX10_count 124 = .ok (.getfield 145, 3) := nq_d dX10_count_0_g (n := 32) rfl
theorem dX10_count_127 : decode cX10_count 127 = .ok (.ireturn, 1) := nq_d dX10_count_0_g (n := 33) rfl
theorem dX10_count_128 : decode cX10_count 128 = .ok (.aload_n 0, 1) := nq_d dX10_count_0_g (n := 34) rfl
theorem dX10_count_129 : decode cX10_count 129 = .ok (.getfield 10, 3) := nq_d dX10_count_0_g (n := 35) rfl
theorem dX10_count_132 : decode cX10_count 132 = .ok (.getfield 148, 3) := nq_d dX10_count_0_g (n := 36) rfl
theorem dX10_count_135 : decode cX10_count 135 = .ok (.ireturn, 1) := nq_d dX10_count_0_g (n := 37) rfl
theorem dX10_count_136 : decode cX10_count 136 = .ok (.aload_n 0, 1) := nq_d dX10_count_0_g (n := 38) rfl
theorem dX10_count_137 : decode cX10_count 137 = .ok (.getfield 10, 3) := nq_d dX10_count_0_g (n := 39) rfl
noncomputable def dX10_count_140_l : List (Nat × Instr × Nat) := [(140, .iconst 0, 1), (141, .invokevirtual 151, 3), (144, .ireturn, 1), (145, .aload_n 0, 1), (146, .getfield 10, 3), (149, .iconst 1, 1), (150, .invokevirtual 151, 3), (153, .ireturn, 1), (154, .aload_n 0, 1), (155, .getfield 10, 3), (158, .iconst 2, 1), (159, .invokevirtual 151, 3), (162, .ireturn, 1), (163, .sipush (-1002), 3), (166, .ireturn, 1)]
set_option maxRecDepth 100000 in
theorem dX10_count_140_g : dX10_count_140_l.all (fun x => decide (decode cX10_count x.1 = .ok x.2)) = true := by decide +kernel
theorem dX10_count_140 : decode cX10_count 140 = .ok (.iconst 0, 1) := nq_d dX10_count_140_g (n := 0) rfl
theorem dX10_count_141 : decode cX10_count 141 = .ok (.invokevirtual 151, 3) := nq_d dX10_count_140_g (n := 1) rfl
theorem dX10_count_144 : decode cX10_count 144 = .ok (.ireturn, 1) := nq_d dX10_count_140_g (n := 2) rfl
theorem dX10_count_145 : decode cX10_count 145 = .ok (.aload_n 0, 1) := nq_d dX10_count_140_g (n := 3) rfl
theorem dX10_count_146 : decode cX10_count 146 = .ok (.getfield 10, 3) := nq_d dX10_count_140_g (n := 4) rfl
theorem dX10_count_149 : decode cX10_count 149 = .ok (.iconst 1, 1) := nq_d dX10_count_140_g (n := 5) rfl
theorem dX10_count_150 : decode cX10_count 150 = .ok (.invokevirtual 151, 3) := nq_d dX10_count_140_g (n := 6) rfl
theorem dX10_count_153 : decode cX10_count 153 = .ok (.ireturn, 1) := nq_d dX10_count_140_g (n := 7) rfl
theorem dX10_count_154 : decode cX10_count 154 = .ok (.aload_n 0, 1) := nq_d dX10_count_140_g (n := 8) rfl
theorem dX10_count_155 : decode cX10_count 155 = .ok (.getfield 10, 3) := nq_d dX10_count_140_g (n := 9) rfl
theorem dX10_count_158 : decode cX10_count 158 = .ok (.iconst 2, 1) := nq_d dX10_count_140_g (n := 10) rfl
theorem dX10_count_159 : decode cX10_count 159 = .ok (.invokevirtual 151, 3) := nq_d dX10_count_140_g (n := 11) rfl
theorem dX10_count_162 : decode cX10_count 162 = .ok (.ireturn, 1) := nq_d dX10_count_140_g (n := 12) rfl
theorem dX10_count_163 : decode cX10_count 163 = .ok (.sipush (-1002), 3) := nq_d dX10_count_140_g (n := 13) rfl
theorem dX10_count_166 : decode cX10_count 166 = .ok (.ireturn, 1) := nq_d dX10_count_140_g (n := 14) rfl
set_option maxRecDepth 100000 in
theorem ggX10_guest_X10_within : GoodIn wsX10_guest wsX10_within := goodIn_sub (sub_c (nq_m (n := 7) rfl) sub_n) (by decide +kernel)
set_option maxRecDepth 100000 in
theorem gX10_guest_X10_within : GoodIn wsX10_guest (va_wsS RX10 67 yX10_within wsX10_within) := goodIn_app (goodIn_sub (sub_c (nq_m (n := 4) rfl) (sub_c (nq_m (n := 5) rfl) (sub_c (nq_m (n := 6) rfl) sub_n))) (by decide +kernel)) ggX10_guest_X10_within
set_option maxRecDepth 100000 in
theorem ggX10_guest_X2_add : GoodIn wsX10_guest wsX2_add := goodIn_sub (sub_c (nq_m (n := 12) rfl) (sub_c (nq_m (n := 13) rfl) (sub_c (nq_m (n := 14) rfl) (sub_c (nq_m (n := 15) rfl) (sub_c (nq_m (n := 16) rfl) (sub_c (nq_m (n := 17) rfl) (sub_c (nq_m (n := 18) rfl) (sub_c (nq_m (n := 19) rfl) (sub_c (nq_m (n := 20) rfl) (sub_c (nq_m (n := 36) rfl) (sub_c (nq_m (n := 37) rfl) (sub_c (nq_m (n := 38) rfl) (sub_c (nq_m (n := 39) rfl) (sub_c (nq_m (n := 40) rfl) (sub_c (nq_m (n := 41) rfl) (sub_c (nq_m (n := 42) rfl) (sub_c (nq_m (n := 43) rfl) sub_n))))))))))))))))) (by decide +kernel)
set_option maxRecDepth 100000 in
theorem gX10_guest_X2_add : GoodIn wsX10_guest (wsV RX10 154 RX2 yX2_add wsX2_add) := goodIn_app (goodIn_sub (sub_c (nq_m (n := 8) rfl) (sub_c (nq_m (n := 9) rfl) (sub_c (nq_m (n := 10) rfl) (sub_c (nq_m (n := 11) rfl) sub_n)))) (by decide +kernel)) ggX10_guest_X2_add
noncomputable def dX10_guest_0_l : List (Nat × Instr × Nat) := [(0, .iload_n 1, 1), (1, .iconst 0, 1), (2, .iconst 3, 1), (3, .invokestatic 67, 3), (6, .ifCond .eq 12, 3), (9, .iload_n 2, 1), (10, .iconst 0, 1), (11, .iconst 2, 1), (12, .invokestatic 67, 3), (15, .ifCond .ne 7, 3), (18, .sipush (-1002), 3), (21, .ireturn, 1), (22, .iload_n 3, 1), (23, .iconst 0, 1), (24, .bipush 99, 2), (26, .invokestatic 67, 3), (29, .ifCond .eq 15, 3), (32, .iload 4, 2), (34, .iconst 0, 1), (35, .sipush 255, 3), (38, .invokestatic 67, 3), (41, .ifCond .ne 7, 3), (44, .sipush (-1002), 3), (47, .ireturn, 1), (48, .aload_n 0, 1), (49, .getfield 26, 3), (52, .getfield 116, 3), (55, .getfield 130, 3), (58, .bipush 16, 2), (60, .if_icmp .lt 7, 3), (63, .sipush (-1004), 3), (66, .ireturn, 1), (67, .aload_n 0, 1), (68, .getfield 26, 3), (71, .getfield 116, 3), (74, .iload_n 1, 1), (75, .iload_n 2, 1), (76, .iload_n 3, 1), (77, .iload 4, 2), (79, .invokevirtual 154, 3)]
set_option maxRecDepth 100000 in
theorem dX10_guest_0_g : dX10_guest_0_l.all (fun x => decide (decode cX10_guest x.1 = .ok x.2)) = true := by decide +kernel
theorem dX10_guest_0 : decode cX10_guest 0 = .ok (.iload_n 1, 1) := nq_d dX10_guest_0_g (n := 0) rfl
theorem dX10_guest_1 : decode cX10_guest 1 = .ok (.iconst 0, 1) := nq_d dX10_guest_0_g (n := 1) rfl
theorem dX10_guest_2 : decode cX10_guest 2 = .ok (.iconst 3, 1) := nq_d dX10_guest_0_g (n := 2) rfl
theorem dX10_guest_3 : decode cX10_guest 3 = .ok (.invokestatic 67, 3) := nq_d dX10_guest_0_g (n := 3) rfl
theorem dX10_guest_6 : decode cX10_guest 6 = .ok (.ifCond .eq 12, 3) := nq_d dX10_guest_0_g (n := 4) rfl
theorem dX10_guest_9 : decode cX10_guest 9 = .ok (.iload_n 2, 1) := nq_d dX10_guest_0_g (n := 5) rfl
theorem dX10_guest_10 : decode cX10_guest 10 = .ok (.iconst 0, 1) := nq_d dX10_guest_0_g (n := 6) rfl
theorem dX10_guest_11 : decode cX10_guest 11 = .ok (.iconst 2, 1) := nq_d dX10_guest_0_g (n := 7) rfl
theorem dX10_guest_12 : decode cX10_guest 12 = .ok (.invokestatic 67, 3) := nq_d dX10_guest_0_g (n := 8) rfl
theorem dX10_guest_15 : decode cX10_guest 15 = .ok (.ifCond .ne 7, 3) := nq_d dX10_guest_0_g (n := 9) rfl
theorem dX10_guest_18 : decode cX10_guest 18 = .ok (.sipush (-1002), 3) := nq_d dX10_guest_0_g (n := 10) rfl
theorem dX10_guest_21 : decode cX10_guest 21 = .ok (.ireturn, 1) := nq_d dX10_guest_0_g (n := 11) rfl
theorem dX10_guest_22 : decode cX10_guest 22 = .ok (.iload_n 3, 1) := nq_d dX10_guest_0_g (n := 12) rfl
theorem dX10_guest_23 : decode cX10_guest 23 = .ok (.iconst 0, 1) := nq_d dX10_guest_0_g (n := 13) rfl
theorem dX10_guest_24 : decode cX10_guest 24 = .ok (.bipush 99, 2) := nq_d dX10_guest_0_g (n := 14) rfl
theorem dX10_guest_26 : decode cX10_guest 26 = .ok (.invokestatic 67, 3) := nq_d dX10_guest_0_g (n := 15) rfl
theorem dX10_guest_29 : decode cX10_guest 29 = .ok (.ifCond .eq 15, 3) := nq_d dX10_guest_0_g (n := 16) rfl
theorem dX10_guest_32 : decode cX10_guest 32 = .ok (.iload 4, 2) := nq_d dX10_guest_0_g (n := 17) rfl
theorem dX10_guest_34 : decode cX10_guest 34 = .ok (.iconst 0, 1) := nq_d dX10_guest_0_g (n := 18) rfl
theorem dX10_guest_35 : decode cX10_guest 35 = .ok (.sipush 255, 3) := nq_d dX10_guest_0_g (n := 19) rfl
theorem dX10_guest_38 : decode cX10_guest 38 = .ok (.invokestatic 67, 3) := nq_d dX10_guest_0_g (n := 20) rfl
theorem dX10_guest_41 : decode cX10_guest 41 = .ok (.ifCond .ne 7, 3) := nq_d dX10_guest_0_g (n := 21) rfl
theorem dX10_guest_44 : decode cX10_guest 44 = .ok (.sipush (-1002), 3) := nq_d dX10_guest_0_g (n := 22) rfl
theorem dX10_guest_47 : decode cX10_guest 47 = .ok (.ireturn, 1) := nq_d dX10_guest_0_g (n := 23) rfl
theorem dX10_guest_48 : decode cX10_guest 48 = .ok (.aload_n 0, 1) := nq_d dX10_guest_0_g (n := 24) rfl
theorem dX10_guest_49 : decode cX10_guest 49 = .ok (.getfield 26, 3) := nq_d dX10_guest_0_g (n := 25) rfl
theorem dX10_guest_52 : decode cX10_guest 52 = .ok (.getfield 116, 3) := nq_d dX10_guest_0_g (n := 26) rfl
theorem dX10_guest_55 : decode cX10_guest 55 = .ok (.getfield 130, 3) := nq_d dX10_guest_0_g (n := 27) rfl
theorem dX10_guest_58 : decode cX10_guest 58 = .ok (.bipush 16, 2) := nq_d dX10_guest_0_g (n := 28) rfl
theorem dX10_guest_60 : decode cX10_guest 60 = .ok (.if_icmp .lt 7, 3) := nq_d dX10_guest_0_g (n := 29) rfl
theorem dX10_guest_63 : decode cX10_guest 63 = .ok (.sipush (-1004), 3) := nq_d dX10_guest_0_g (n := 30) rfl
theorem dX10_guest_66 : decode cX10_guest 66 = .ok (.ireturn, 1) := nq_d dX10_guest_0_g (n := 31) rfl
theorem dX10_guest_67 : decode cX10_guest 67 = .ok (.aload_n 0, 1) := nq_d dX10_guest_0_g (n := 32) rfl
theorem dX10_guest_68 : decode cX10_guest 68 = .ok (.getfield 26, 3) := nq_d dX10_guest_0_g (n := 33) rfl
theorem dX10_guest_71 : decode cX10_guest 71 = .ok (.getfield 116, 3) := nq_d dX10_guest_0_g (n := 34) rfl
theorem dX10_guest_74 : decode cX10_guest 74 = .ok (.iload_n 1, 1) := nq_d dX10_guest_0_g (n := 35) rfl
theorem dX10_guest_75 : decode cX10_guest 75 = .ok (.iload_n 2, 1) := nq_d dX10_guest_0_g (n := 36) rfl
theorem dX10_guest_76 : decode cX10_guest 76 = .ok (.iload_n 3, 1) := nq_d dX10_guest_0_g (n := 37) rfl
theorem dX10_guest_77 : decode cX10_guest 77 = .ok (.iload 4, 2) := nq_d dX10_guest_0_g (n := 38) rfl
theorem dX10_guest_79 : decode cX10_guest 79 = .ok (.invokevirtual 154, 3) := nq_d dX10_guest_0_g (n := 39) rfl
theorem dX10_guest_82 : decode cX10_guest 82 = .ok (.ireturn, 1) := by decide +kernel
set_option maxRecDepth 100000 in
theorem ggX10_told_X2_knows : GoodIn wsX10_told wsX2_knows := goodIn_sub (sub_c (nq_m (n := 14) rfl) (sub_c (nq_m (n := 15) rfl) (sub_c (nq_m (n := 68) rfl) (sub_c (nq_m (n := 69) rfl) (sub_c (nq_m (n := 70) rfl) (sub_c (nq_m (n := 71) rfl) (sub_c (nq_m (n := 72) rfl) (sub_c (nq_m (n := 73) rfl) (sub_c (nq_m (n := 74) rfl) (sub_c (nq_m (n := 75) rfl) sub_n)))))))))) (by decide +kernel)
set_option maxRecDepth 100000 in
theorem gX10_told_X2_knows : GoodIn wsX10_told (wsV RX10 158 RX2 yX2_knows wsX2_knows) := goodIn_app (goodIn_sub (sub_c (nq_m (n := 10) rfl) (sub_c (nq_m (n := 11) rfl) (sub_c (nq_m (n := 12) rfl) (sub_c (nq_m (n := 13) rfl) sub_n)))) (by decide +kernel)) ggX10_told_X2_knows
set_option maxRecDepth 100000 in
theorem ggX10_told_X2_holderOf : GoodIn wsX10_told wsX2_holderOf := goodIn_sub (sub_c (nq_m (n := 19) rfl) (sub_c (nq_m (n := 15) rfl) (sub_c (nq_m (n := 20) rfl) (sub_c (nq_m (n := 68) rfl) (sub_c (nq_m (n := 69) rfl) (sub_c (nq_m (n := 70) rfl) (sub_c (nq_m (n := 71) rfl) (sub_c (nq_m (n := 72) rfl) (sub_c (nq_m (n := 73) rfl) (sub_c (nq_m (n := 74) rfl) (sub_c (nq_m (n := 75) rfl) sub_n))))))))))) (by decide +kernel)
set_option maxRecDepth 100000 in
theorem gX10_told_X2_holderOf : GoodIn wsX10_told (wsV RX10 177 RX2 yX2_holderOf wsX2_holderOf) := goodIn_app (goodIn_sub (sub_c (nq_m (n := 16) rfl) (sub_c (nq_m (n := 17) rfl) (sub_c (nq_m (n := 18) rfl) (sub_c (nq_m (n := 13) rfl) sub_n)))) (by decide +kernel)) ggX10_told_X2_holderOf
set_option maxRecDepth 100000 in
theorem ggX10_told_X10_expectedOf : GoodIn wsX10_told wsX10_expectedOf := goodIn_sub (sub_c (nq_m (n := 25) rfl) (sub_c (nq_m (n := 1) rfl) (sub_c (nq_m (n := 2) rfl) (sub_c (nq_m (n := 3) rfl) (sub_c (nq_m (n := 26) rfl) (sub_c (nq_m (n := 10) rfl) (sub_c (nq_m (n := 11) rfl) (sub_c (nq_m (n := 12) rfl) (sub_c (nq_m (n := 13) rfl) (sub_c (nq_m (n := 14) rfl) (sub_c (nq_m (n := 15) rfl) (sub_c (nq_m (n := 27) rfl) (sub_c (nq_m (n := 28) rfl) (sub_c (nq_m (n := 29) rfl) (sub_c (nq_m (n := 24) rfl) (sub_c (nq_m (n := 30) rfl) (sub_c (nq_m (n := 31) rfl) (sub_c (nq_m (n := 32) rfl) (sub_c (nq_m (n := 33) rfl) (sub_c (nq_m (n := 34) rfl) (sub_c (nq_m (n := 35) rfl) (sub_c (nq_m (n := 36) rfl) (sub_c (nq_m (n := 37) rfl) (sub_c (nq_m (n := 38) rfl) (sub_c (nq_m (n := 39) rfl) (sub_c (nq_m (n := 40) rfl) (sub_c (nq_m (n := 41) rfl) (sub_c (nq_m (n := 42) rfl) (sub_c (nq_m (n := 43) rfl) (sub_c (nq_m (n := 44) rfl) (sub_c (nq_m (n := 45) rfl) (sub_c (nq_m (n := 46) rfl) (sub_c (nq_m (n := 47) rfl) (sub_c (nq_m (n := 48) rfl) (sub_c (nq_m (n := 49) rfl) (sub_c (nq_m (n := 50) rfl) (sub_c (nq_m (n := 51) rfl) (sub_c (nq_m (n := 52) rfl) (sub_c (nq_m (n := 53) rfl) (sub_c (nq_m (n := 54) rfl) (sub_c (nq_m (n := 55) rfl) (sub_c (nq_m (n := 56) rfl) (sub_c (nq_m (n := 57) rfl) (sub_c (nq_m (n := 58) rfl) (sub_c (nq_m (n := 59) rfl) (sub_c (nq_m (n := 60) rfl) (sub_c (nq_m (n := 61) rfl) (sub_c (nq_m (n := 62) rfl) (sub_c (nq_m (n := 63) rfl) (sub_c (nq_m (n := 64) rfl) (sub_c (nq_m (n := 65) rfl) (sub_c (nq_m (n := 66) rfl) (sub_c (nq_m (n := 67) rfl) (sub_c (nq_m (n := 68) rfl) (sub_c (nq_m (n := 69) rfl) (sub_c (nq_m (n := 70) rfl) (sub_c (nq_m (n := 71) rfl) (sub_c (nq_m (n := 72) rfl) (sub_c (nq_m (n := 73) rfl) (sub_c (nq_m (n := 74) rfl) (sub_c (nq_m (n := 75) rfl) (sub_c (nq_m (n := 76) rfl) (sub_c (nq_m (n := 77) rfl) (sub_c (nq_m (n := 78) rfl) (sub_c (nq_m (n := 79) rfl) (sub_c (nq_m (n := 80) rfl) (sub_c (nq_m (n := 81) rfl) (sub_c (nq_m (n := 82) rfl) (sub_c (nq_m (n := 83) rfl) (sub_c (nq_m (n := 84) rfl) sub_n)))))))))))))))))))))))))))))))))))))))))))))))))))))))))))))))))))))) (by decide +kernel)
set_option maxRecDepth 100000 in
theorem gX10_told_X10_expectedOf : GoodIn wsX10_told (wsV RX10 183 RX10 yX10_expectedOf wsX10_expectedOf) := goodIn_app (goodIn_sub (sub_c (nq_m (n := 21) rfl) (sub_c (nq_m (n := 22) rfl) (sub_c (nq_m (n := 23) rfl) (sub_c (nq_m (n := 24) rfl) sub_n)))) (by decide +kernel)) ggX10_told_X10_expectedOf
noncomputable def dX10_told_0_l : List (Nat × Instr × Nat) := [(0, .aload_n 0, 1), (1, .getfield 26, 3), (4, .getfield 116, 3), (7, .astore_n 3, 1), (8, .aload_n 3, 1), (9, .iload_n 1, 1), (10, .invokevirtual 158, 3), (13, .ifCond .ne 7, 3), (16, .sipush (-1001), 3), (19, .ireturn, 1), (20, .iload_n 2, 1), (21, .tableswitch 112 0 8 #[51, 58, 65, 72, 79, 86, 93, 99, 106], 51), (72, .aload_n 3, 1), (73, .getfield 161, 3), (76, .iload_n 1, 1), (77, .iaload, 1), (78, .ireturn, 1), (79, .aload_n 3, 1), (80, .getfield 164, 3), (83, .iload_n 1, 1), (84, .iaload, 1), (85, .ireturn, 1), (86, .aload_n 3, 1), (87, .getfield 165, 3), (90, .iload_n 1, 1), (91, .iaload, 1), (92, .ireturn, 1), (93, .aload_n 3, 1), (94, .getfield 168, 3), (97, .iload_n 1, 1), (98, .iaload, 1), (99, .ireturn, 1), (100, .aload_n 3, 1), (101, .getfield 171, 3), (104, .iload_n 1, 1), (105, .iaload, 1), (106, .ireturn, 1), (107, .aload_n 3, 1), (108, .getfield 174, 3), (111, .iload_n 1, 1)]
set_option maxRecDepth 100000 in
theorem dX10_told_0_g : dX10_told_0_l.all (fun x => decide (decode cX10_told x.1 = .ok x.2)) = true := by decide +kernel
theorem dX10_told_0 : decode cX10_told 0 = .ok (.aload_n 0, 1) := nq_d dX10_told_0_g (n := 0) rfl
theorem dX10_told_1 : decode cX10_told 1 = .ok (.getfield 26, 3) := nq_d dX10_told_0_g (n := 1) rfl
theorem dX10_told_4 : decode cX10_told 4 = .ok (.getfield 116, 3) := nq_d dX10_told_0_g (n := 2) rfl
theorem dX10_told_7 : decode cX10_told 7 = .ok (.astore_n 3, 1) := nq_d dX10_told_0_g (n := 3) rfl
theorem dX10_told_8 : decode cX10_told 8 = .ok (.aload_n 3, 1) := nq_d dX10_told_0_g (n := 4) rfl
theorem dX10_told_9 : decode cX10_told 9 = .ok (.iload_n 1, 1) := nq_d dX10_told_0_g (n := 5) rfl
theorem dX10_told_10 : decode cX10_told 10 = .ok (.invokevirtual 158, 3) := nq_d dX10_told_0_g (n := 6) rfl
theorem dX10_told_13 : decode cX10_told 13 = .ok (.ifCond .ne 7, 3) := nq_d dX10_told_0_g (n := 7) rfl
theorem dX10_told_16 : decode cX10_told 16 = .ok (.sipush (-1001), 3) := nq_d dX10_told_0_g (n := 8) rfl
theorem dX10_told_19 : decode cX10_told 19 = .ok (.ireturn, 1) := nq_d dX10_told_0_g (n := 9) rfl
theorem dX10_told_20 : decode cX10_told 20 = .ok (.iload_n 2, 1) := nq_d dX10_told_0_g (n := 10) rfl
theorem dX10_told_21 : decode cX10_told 21 = .ok (.tableswitch 112 0 8 #[51, 58, 65, 72, 79, 86, 93, 99, 106], 51) := nq_d dX10_told_0_g (n := 11) rfl
theorem dX10_told_72 : decode cX10_told 72 = .ok (.aload_n 3, 1) := nq_d dX10_told_0_g (n := 12) rfl
theorem dX10_told_73 : decode cX10_told 73 = .ok (.getfield 161, 3) := nq_d dX10_told_0_g (n := 13) rfl
theorem dX10_told_76 : decode cX10_told 76 = .ok (.iload_n 1, 1) := nq_d dX10_told_0_g (n := 14) rfl
theorem dX10_told_77 : decode cX10_told 77 = .ok (.iaload, 1) := nq_d dX10_told_0_g (n := 15) rfl
theorem dX10_told_78 : decode cX10_told 78 = .ok (.ireturn, 1) := nq_d dX10_told_0_g (n := 16) rfl
theorem dX10_told_79 : decode cX10_told 79 = .ok (.aload_n 3, 1) := nq_d dX10_told_0_g (n := 17) rfl
theorem dX10_told_80 : decode cX10_told 80 = .ok (.getfield 164, 3) := nq_d dX10_told_0_g (n := 18) rfl
theorem dX10_told_83 : decode cX10_told 83 = .ok (.iload_n 1, 1) := nq_d dX10_told_0_g (n := 19) rfl
theorem dX10_told_84 : decode cX10_told 84 = .ok (.iaload, 1) := nq_d dX10_told_0_g (n := 20) rfl
theorem dX10_told_85 : decode cX10_told 85 = .ok (.ireturn, 1) := nq_d dX10_told_0_g (n := 21) rfl
theorem dX10_told_86 : decode cX10_told 86 = .ok (.aload_n 3, 1) := nq_d dX10_told_0_g (n := 22) rfl
theorem dX10_told_87 : decode cX10_told 87 = .ok (.getfield 165, 3) := nq_d dX10_told_0_g (n := 23) rfl
theorem dX10_told_90 : decode cX10_told 90 = .ok (.iload_n 1, 1) := nq_d dX10_told_0_g (n := 24) rfl
theorem dX10_told_91 : decode cX10_told 91 = .ok (.iaload, 1) := nq_d dX10_told_0_g (n := 25) rfl
theorem dX10_told_92 : decode cX10_told 92 = .ok (.ireturn, 1) := nq_d dX10_told_0_g (n := 26) rfl
theorem dX10_told_93 : decode cX10_told 93 = .ok (.aload_n 3, 1) := nq_d dX10_told_0_g (n := 27) rfl
theorem dX10_told_94 : decode cX10_told 94 = .ok (.getfield 168, 3) := nq_d dX10_told_0_g (n := 28) rfl
theorem dX10_told_97 : decode cX10_told 97 = .ok (.iload_n 1, 1) := nq_d dX10_told_0_g (n := 29) rfl
theorem dX10_told_98 : decode cX10_told 98 = .ok (.iaload, 1) := nq_d dX10_told_0_g (n := 30) rfl
theorem dX10_told_99 : decode cX10_told 99 = .ok (.ireturn, 1) := nq_d dX10_told_0_g (n := 31) rfl
theorem dX10_told_100 : decode cX10_told 100 = .ok (.aload_n 3, 1) := nq_d dX10_told_0_g (n := 32) rfl
theorem dX10_told_101 : decode cX10_told 101 = .ok (.getfield 171, 3) := nq_d dX10_told_0_g (n := 33) rfl
theorem dX10_told_104 : decode cX10_told 104 = .ok (.iload_n 1, 1) := nq_d dX10_told_0_g (n := 34) rfl
theorem dX10_told_105 : decode cX10_told 105 = .ok (.iaload, 1) := nq_d dX10_told_0_g (n := 35) rfl
theorem dX10_told_106 : decode cX10_told 106 = .ok (.ireturn, 1) := nq_d dX10_told_0_g (n := 36) rfl
theorem dX10_told_107 : decode cX10_told 107 = .ok (.aload_n 3, 1) := nq_d dX10_told_0_g (n := 37) rfl
theorem dX10_told_108 : decode cX10_told 108 = .ok (.getfield 174, 3) := nq_d dX10_told_0_g (n := 38) rfl
theorem dX10_told_111 : decode cX10_told 111 = .ok (.iload_n 1, 1) := nq_d dX10_told_0_g (n := 39) rfl
noncomputable def dX10_told_112_l : List (Nat × Instr × Nat) := [(112, .iaload, 1), (113, .ireturn, 1), (114, .aload_n 3, 1), (115, .iload_n 1, 1), (116, .invokevirtual 177, 3), (119, .ireturn, 1), (120, .aload_n 3, 1), (121, .getfield 180, 3), (124, .iload_n 1, 1), (125, .iaload, 1), (126, .ireturn, 1), (127, .aload_n 0, 1), (128, .iload_n 1, 1), (129, .invokevirtual 183, 3), (132, .ireturn, 1), (133, .sipush (-1002), 3), (136, .ireturn, 1)]
set_option maxRecDepth 100000 in
theorem dX10_told_112_g : dX10_told_112_l.all (fun x => decide (decode cX10_told x.1 = .ok x.2)) = true := by decide +kernel
theorem dX10_told_112 : decode cX10_told 112 = .ok (.iaload, 1) := nq_d dX10_told_112_g (n := 0) rfl
