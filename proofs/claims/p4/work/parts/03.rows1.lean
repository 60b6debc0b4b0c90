noncomputable def dX0_init_0_l : List (Nat × Instr × Nat) := [(0, .aload_n 0, 1), (1, .invokespecial 3, 3), (4, .aload_n 0, 1), (5, .iconst 0, 1), (6, .putfield 9, 3), (9, .aload_n 0, 1), (10, .bipush 6, 2), (12, .newarray .int, 2), (14, .putfield 15, 3), (17, .aload_n 0, 1), (18, .bipush 6, 2), (20, .newarray .int, 2), (22, .putfield 19, 3), (25, .aload_n 0, 1), (26, .bipush 6, 2), (28, .newarray .int, 2), (30, .putfield 22, 3), (33, .return_, 1)]
set_option maxRecDepth 100000 in
theorem dX0_init_0_g : dX0_init_0_l.all (fun x => decide (decode cX0_init x.1 = .ok x.2)) = true := by decide +kernel
theorem dX0_init_0 : decode cX0_init 0 = .ok (.aload_n 0, 1) := nq_d dX0_init_0_g (n := 0) rfl
theorem dX0_init_1 : decode cX0_init 1 = .ok (.invokespecial 3, 3) := nq_d dX0_init_0_g (n := 1) rfl
theorem dX0_init_4 : decode cX0_init 4 = .ok (.aload_n 0, 1) := nq_d dX0_init_0_g (n := 2) rfl
theorem dX0_init_5 : decode cX0_init 5 = .ok (.iconst 0, 1) := nq_d dX0_init_0_g (n := 3) rfl
theorem dX0_init_6 : decode cX0_init 6 = .ok (.putfield 9, 3) := nq_d dX0_init_0_g (n := 4) rfl
theorem dX0_init_9 : decode cX0_init 9 = .ok (.aload_n 0, 1) := nq_d dX0_init_0_g (n := 5) rfl
theorem dX0_init_10 : decode cX0_init 10 = .ok (.bipush 6, 2) := nq_d dX0_init_0_g (n := 6) rfl
theorem dX0_init_12 : decode cX0_init 12 = .ok (.newarray .int, 2) := nq_d dX0_init_0_g (n := 7) rfl
theorem dX0_init_14 : decode cX0_init 14 = .ok (.putfield 15, 3) := nq_d dX0_init_0_g (n := 8) rfl
theorem dX0_init_17 : decode cX0_init 17 = .ok (.aload_n 0, 1) := nq_d dX0_init_0_g (n := 9) rfl
theorem dX0_init_18 : decode cX0_init 18 = .ok (.bipush 6, 2) := nq_d dX0_init_0_g (n := 10) rfl
theorem dX0_init_20 : decode cX0_init 20 = .ok (.newarray .int, 2) := nq_d dX0_init_0_g (n := 11) rfl
theorem dX0_init_22 : decode cX0_init 22 = .ok (.putfield 19, 3) := nq_d dX0_init_0_g (n := 12) rfl
theorem dX0_init_25 : decode cX0_init 25 = .ok (.aload_n 0, 1) := nq_d dX0_init_0_g (n := 13) rfl
theorem dX0_init_26 : decode cX0_init 26 = .ok (.bipush 6, 2) := nq_d dX0_init_0_g (n := 14) rfl
theorem dX0_init_28 : decode cX0_init 28 = .ok (.newarray .int, 2) := nq_d dX0_init_0_g (n := 15) rfl
theorem dX0_init_30 : decode cX0_init 30 = .ok (.putfield 22, 3) := nq_d dX0_init_0_g (n := 16) rfl
theorem dX0_init_33 : decode cX0_init 33 = .ok (.return_, 1) := nq_d dX0_init_0_g (n := 17) rfl
noncomputable def dX0_copyFrom_0_l : List (Nat × Instr × Nat) := [(0, .aload_n 0, 1), (1, .aload_n 1, 1), (2, .getfield 9, 3), (5, .putfield 9, 3), (8, .aload_n 1, 1), (9, .getfield 15, 3), (12, .iconst 0, 1), (13, .aload_n 0, 1), (14, .getfield 15, 3), (17, .iconst 0, 1), (18, .bipush 6, 2), (20, .invokestatic 25, 3), (23, .aload_n 1, 1), (24, .getfield 19, 3), (27, .iconst 0, 1), (28, .aload_n 0, 1), (29, .getfield 19, 3), (32, .iconst 0, 1), (33, .bipush 6, 2), (35, .invokestatic 25, 3), (38, .aload_n 1, 1), (39, .getfield 22, 3), (42, .iconst 0, 1), (43, .aload_n 0, 1), (44, .getfield 22, 3), (47, .iconst 0, 1), (48, .bipush 6, 2), (50, .invokestatic 25, 3), (53, .return_, 1)]
set_option maxRecDepth 100000 in
theorem dX0_copyFrom_0_g : dX0_copyFrom_0_l.all (fun x => decide (decode cX0_copyFrom x.1 = .ok x.2)) = true := by decide +kernel
theorem dX0_copyFrom_0 : decode cX0_copyFrom 0 = .ok (.aload_n 0, 1) := nq_d dX0_copyFrom_0_g (n := 0) rfl
theorem dX0_copyFrom_1 : decode cX0_copyFrom 1 = .ok (.aload_n 1, 1) := nq_d dX0_copyFrom_0_g (n := 1) rfl
theorem dX0_copyFrom_2 : decode cX0_copyFrom 2 = .ok (.getfield 9, 3) := nq_d dX0_copyFrom_0_g (n := 2) rfl
theorem dX0_copyFrom_5 : decode cX0_copyFrom 5 = .ok (.putfield 9, 3) := nq_d dX0_copyFrom_0_g (n := 3) rfl
theorem dX0_copyFrom_8 : decode cX0_copyFrom 8 = .ok (.aload_n 1, 1) := nq_d dX0_copyFrom_0_g (n := 4) rfl
theorem dX0_copyFrom_9 : decode cX0_copyFrom 9 = .ok (.getfield 15, 3) := nq_d dX0_copyFrom_0_g (n := 5) rfl
theorem dX0_copyFrom_12 : decode cX0_copyFrom 12 = .ok (.iconst 0, 1) := nq_d dX0_copyFrom_0_g (n := 6) rfl
theorem dX0_copyFrom_13 : decode cX0_copyFrom 13 = .ok (.aload_n 0, 1) := nq_d dX0_copyFrom_0_g (n := 7) rfl
theorem dX0_copyFrom_14 : decode cX0_copyFrom 14 = .ok (.getfield 15, 3) := nq_d dX0_copyFrom_0_g (n := 8) rfl
theorem dX0_copyFrom_17 : decode cX0_copyFrom 17 = .ok (.iconst 0, 1) := nq_d dX0_copyFrom_0_g (n := 9) rfl
theorem dX0_copyFrom_18 : decode cX0_copyFrom 18 = .ok (.bipush 6, 2) := nq_d dX0_copyFrom_0_g (n := 10) rfl
theorem dX0_copyFrom_20 : decode cX0_copyFrom 20 = .ok (.invokestatic 25, 3) := nq_d dX0_copyFrom_0_g (n := 11) rfl
theorem dX0_copyFrom_23 : decode cX0_copyFrom 23 = .ok (.aload_n 1, 1) := nq_d dX0_copyFrom_0_g (n := 12) rfl
theorem dX0_copyFrom_24 : decode cX0_copyFrom 24 = .ok (.getfield 19, 3) := nq_d dX0_copyFrom_0_g (n := 13) rfl
theorem dX0_copyFrom_27 : decode cX0_copyFrom 27 = .ok (.iconst 0, 1) := nq_d dX0_copyFrom_0_g (n := 14) rfl
theorem dX0_copyFrom_28 : decode cX0_copyFrom 28 = .ok (.aload_n 0, 1) := nq_d dX0_copyFrom_0_g (n := 15) rfl
theorem dX0_copyFrom_29 : decode cX0_copyFrom 29 = .ok (.getfield 19, 3) := nq_d dX0_copyFrom_0_g (n := 16) rfl
theorem dX0_copyFrom_32 : decode cX0_copyFrom 32 = .ok (.iconst 0, 1) := nq_d dX0_copyFrom_0_g (n := 17) rfl
theorem dX0_copyFrom_33 : decode cX0_copyFrom 33 = .ok (.bipush 6, 2) := nq_d dX0_copyFrom_0_g (n := 18) rfl
theorem dX0_copyFrom_35 : decode cX0_copyFrom 35 = .ok (.invokestatic 25, 3) := nq_d dX0_copyFrom_0_g (n := 19) rfl
theorem dX0_copyFrom_38 : decode cX0_copyFrom 38 = .ok (.aload_n 1, 1) := nq_d dX0_copyFrom_0_g (n := 20) rfl
theorem dX0_copyFrom_39 : decode cX0_copyFrom 39 = .ok (.getfield 22, 3) := nq_d dX0_copyFrom_0_g (n := 21) rfl
theorem dX0_copyFrom_42 : decode cX0_copyFrom 42 = .ok (.iconst 0, 1) := nq_d dX0_copyFrom_0_g (n := 22) rfl
theorem dX0_copyFrom_43 : decode cX0_copyFrom 43 = .ok (.aload_n 0, 1) := nq_d dX0_copyFrom_0_g (n := 23) rfl
theorem dX0_copyFrom_44 : decode cX0_copyFrom 44 = .ok (.getfield 22, 3) := nq_d dX0_copyFrom_0_g (n := 24) rfl
theorem dX0_copyFrom_47 : decode cX0_copyFrom 47 = .ok (.iconst 0, 1) := nq_d dX0_copyFrom_0_g (n := 25) rfl
theorem dX0_copyFrom_48 : decode cX0_copyFrom 48 = .ok (.bipush 6, 2) := nq_d dX0_copyFrom_0_g (n := 26) rfl
theorem dX0_copyFrom_50 : decode cX0_copyFrom 50 = .ok (.invokestatic 25, 3) := nq_d dX0_copyFrom_0_g (n := 27) rfl
theorem dX0_copyFrom_53 : decode cX0_copyFrom 53 = .ok (.return_, 1) := nq_d dX0_copyFrom_0_g (n := 28) rfl
noncomputable def dX0_knows_0_l : List (Nat × Instr × Nat) := [(0, .iload_n 1, 1), (1, .ifCond .lt 21, 3), (4, .iload_n 1, 1), (5, .aload_n 0, 1), (6, .getfield 9, 3), (9, .if_icmp .ge 13, 3), (12, .iload_n 1, 1), (13, .bipush 6, 2), (15, .if_icmp .ge 7, 3), (18, .iconst 1, 1), (19, .goto 4, 3), (22, .iconst 0, 1), (23, .ireturn, 1)]
set_option maxRecDepth 100000 in
theorem dX0_knows_0_g : dX0_knows_0_l.all (fun x => decide (decode cX0_knows x.1 = .ok x.2)) = true := by decide +kernel
theorem dX0_knows_0 : decode cX0_knows 0 = .ok (.iload_n 1, 1) := nq_d dX0_knows_0_g (n := 0) rfl
theorem dX0_knows_1 : decode cX0_knows 1 = .ok (.ifCond .lt 21, 3) := nq_d dX0_knows_0_g (n := 1) rfl
theorem dX0_knows_4 : decode cX0_knows 4 = .ok (.iload_n 1, 1) := nq_d dX0_knows_0_g (n := 2) rfl
theorem dX0_knows_5 : decode cX0_knows 5 = .ok (.aload_n 0, 1) := nq_d dX0_knows_0_g (n := 3) rfl
theorem dX0_knows_6 : decode cX0_knows 6 = .ok (.getfield 9, 3) := nq_d dX0_knows_0_g (n := 4) rfl
theorem dX0_knows_9 : decode cX0_knows 9 = .ok (.if_icmp .ge 13, 3) := nq_d dX0_knows_0_g (n := 5) rfl
theorem dX0_knows_12 : decode cX0_knows 12 = .ok (.iload_n 1, 1) := nq_d dX0_knows_0_g (n := 6) rfl
theorem dX0_knows_13 : decode cX0_knows 13 = .ok (.bipush 6, 2) := nq_d dX0_knows_0_g (n := 7) rfl
theorem dX0_knows_15 : decode cX0_knows 15 = .ok (.if_icmp .ge 7, 3) := nq_d dX0_knows_0_g (n := 8) rfl
theorem dX0_knows_18 : decode cX0_knows 18 = .ok (.iconst 1, 1) := nq_d dX0_knows_0_g (n := 9) rfl
theorem dX0_knows_19 : decode cX0_knows 19 = .ok (.goto 4, 3) := nq_d dX0_knows_0_g (n := 10) rfl
theorem dX0_knows_22 : decode cX0_knows 22 = .ok (.iconst 0, 1) := nq_d dX0_knows_0_g (n := 11) rfl
theorem dX0_knows_23 : decode cX0_knows 23 = .ok (.ireturn, 1) := nq_d dX0_knows_0_g (n := 12) rfl
noncomputable def dX0_isOf_0_l : List (Nat × Instr × Nat) := [(0, .iconst 0, 1), (1, .istore_n 2, 1), (2, .iload_n 2, 1), (3, .aload_n 0, 1), (4, .getfield 9, 3), (7, .if_icmp .ge 21, 3), (10, .aload_n 0, 1), (11, .getfield 15, 3), (14, .iload_n 2, 1), (15, .iaload, 1), (16, .iload_n 1, 1), (17, .if_icmp .ne 5, 3), (20, .iconst 1, 1), (21, .ireturn, 1), (22, .iinc 2 1, 3), (25, .goto (-23), 3), (28, .iconst 0, 1), (29, .ireturn, 1)]
set_option maxRecDepth 100000 in
theorem dX0_isOf_0_g : dX0_isOf_0_l.all (fun x => decide (decode cX0_isOf x.1 = .ok x.2)) = true := by decide +kernel
theorem dX0_isOf_0 : decode cX0_isOf 0 = .ok (.iconst 0, 1) := nq_d dX0_isOf_0_g (n := 0) rfl
theorem dX0_isOf_1 : decode cX0_isOf 1 = .ok (.istore_n 2, 1) := nq_d dX0_isOf_0_g (n := 1) rfl
theorem dX0_isOf_2 : decode cX0_isOf 2 = .ok (.iload_n 2, 1) := nq_d dX0_isOf_0_g (n := 2) rfl
theorem dX0_isOf_3 : decode cX0_isOf 3 = .ok (.aload_n 0, 1) := nq_d dX0_isOf_0_g (n := 3) rfl
theorem dX0_isOf_4 : decode cX0_isOf 4 = .ok (.getfield 9, 3) := nq_d dX0_isOf_0_g (n := 4) rfl
theorem dX0_isOf_7 : decode cX0_isOf 7 = .ok (.if_icmp .ge 21, 3) := nq_d dX0_isOf_0_g (n := 5) rfl
theorem dX0_isOf_10 : decode cX0_isOf 10 = .ok (.aload_n 0, 1) := nq_d dX0_isOf_0_g (n := 6) rfl
theorem dX0_isOf_11 : decode cX0_isOf 11 = .ok (.getfield 15, 3) := nq_d dX0_isOf_0_g (n := 7) rfl
theorem dX0_isOf_14 : decode cX0_isOf 14 = .ok (.iload_n 2, 1) := nq_d dX0_isOf_0_g (n := 8) rfl
theorem dX0_isOf_15 : decode cX0_isOf 15 = .ok (.iaload, 1) := nq_d dX0_isOf_0_g (n := 9) rfl
theorem dX0_isOf_16 : decode cX0_isOf 16 = .ok (.iload_n 1, 1) := nq_d dX0_isOf_0_g (n := 10) rfl
theorem dX0_isOf_17 : decode cX0_isOf 17 = .ok (.if_icmp .ne 5, 3) := nq_d dX0_isOf_0_g (n := 11) rfl
theorem dX0_isOf_20 : decode cX0_isOf 20 = .ok (.iconst 1, 1) := nq_d dX0_isOf_0_g (n := 12) rfl
theorem dX0_isOf_21 : decode cX0_isOf 21 = .ok (.ireturn, 1) := nq_d dX0_isOf_0_g (n := 13) rfl
theorem dX0_isOf_22 : decode cX0_isOf 22 = .ok (.iinc 2 1, 3) := nq_d dX0_isOf_0_g (n := 14) rfl
theorem dX0_isOf_25 : decode cX0_isOf 25 = .ok (.goto (-23), 3) := nq_d dX0_isOf_0_g (n := 15) rfl
theorem dX0_isOf_28 : decode cX0_isOf 28 = .ok (.iconst 0, 1) := nq_d dX0_isOf_0_g (n := 16) rfl
theorem dX0_isOf_29 : decode cX0_isOf 29 = .ok (.ireturn, 1) := nq_d dX0_isOf_0_g (n := 17) rfl
set_option maxRecDepth 100000 in
theorem ggX0_guestOf_X0_knows : GoodIn wsX0_guestOf wsX0_knows := goodIn_sub (sub_c (nq_m (n := 6) rfl) (sub_c (nq_m (n := 7) rfl) (sub_c (nq_m (n := 8) rfl) (sub_c (nq_m (n := 9) rfl) (sub_c (nq_m (n := 10) rfl) (sub_c (nq_m (n := 11) rfl) sub_n)))))) (by decide +kernel)
set_option maxRecDepth 100000 in
theorem gX0_guestOf_X0_knows : GoodIn wsX0_guestOf (wsV RX0 31 RX0 yX0_knows wsX0_knows) := goodIn_app (goodIn_sub (sub_c (nq_m (n := 2) rfl) (sub_c (nq_m (n := 3) rfl) (sub_c (nq_m (n := 4) rfl) (sub_c (nq_m (n := 5) rfl) sub_n)))) (by decide +kernel)) ggX0_guestOf_X0_knows
noncomputable def dX0_guestOf_0_l : List (Nat × Instr × Nat) := [(0, .aload_n 0, 1), (1, .iload_n 1, 1), (2, .invokevirtual 31, 3), (5, .ifCond .eq 12, 3), (8, .aload_n 0, 1), (9, .getfield 15, 3), (12, .iload_n 1, 1), (13, .iaload, 1), (14, .goto 4, 3), (17, .iconst (-1), 1), (18, .ireturn, 1)]
set_option maxRecDepth 100000 in
theorem dX0_guestOf_0_g : dX0_guestOf_0_l.all (fun x => decide (decode cX0_guestOf x.1 = .ok x.2)) = true := by decide +kernel
theorem dX0_guestOf_0 : decode cX0_guestOf 0 = .ok (.aload_n 0, 1) := nq_d dX0_guestOf_0_g (n := 0) rfl
theorem dX0_guestOf_1 : decode cX0_guestOf 1 = .ok (.iload_n 1, 1) := nq_d dX0_guestOf_0_g (n := 1) rfl
theorem dX0_guestOf_2 : decode cX0_guestOf 2 = .ok (.invokevirtual 31, 3) := nq_d dX0_guestOf_0_g (n := 2) rfl
theorem dX0_guestOf_5 : decode cX0_guestOf 5 = .ok (.ifCond .eq 12, 3) := nq_d dX0_guestOf_0_g (n := 3) rfl
theorem dX0_guestOf_8 : decode cX0_guestOf 8 = .ok (.aload_n 0, 1) := nq_d dX0_guestOf_0_g (n := 4) rfl
theorem dX0_guestOf_9 : decode cX0_guestOf 9 = .ok (.getfield 15, 3) := nq_d dX0_guestOf_0_g (n := 5) rfl
theorem dX0_guestOf_12 : decode cX0_guestOf 12 = .ok (.iload_n 1, 1) := nq_d dX0_guestOf_0_g (n := 6) rfl
theorem dX0_guestOf_13 : decode cX0_guestOf 13 = .ok (.iaload, 1) := nq_d dX0_guestOf_0_g (n := 7) rfl
theorem dX0_guestOf_14 : decode cX0_guestOf 14 = .ok (.goto 4, 3) := nq_d dX0_guestOf_0_g (n := 8) rfl
theorem dX0_guestOf_17 : decode cX0_guestOf 17 = .ok (.iconst (-1), 1) := nq_d dX0_guestOf_0_g (n := 9) rfl
theorem dX0_guestOf_18 : decode cX0_guestOf 18 = .ok (.ireturn, 1) := nq_d dX0_guestOf_0_g (n := 10) rfl
noncomputable def dX0_add_0_l : List (Nat × Instr × Nat) := [(0, .aload_n 0, 1), (1, .getfield 9, 3), (4, .istore 4, 2), (6, .iload 4, 2), (8, .ifCond .lt 10, 3), (11, .iload 4, 2), (13, .bipush 6, 2), (15, .if_icmp .lt 7, 3), (18, .sipush (-1004), 3), (21, .ireturn, 1), (22, .aload_n 0, 1), (23, .getfield 15, 3), (26, .iload 4, 2), (28, .iload_n 1, 1), (29, .iastore, 1), (30, .aload_n 0, 1), (31, .getfield 19, 3), (34, .iload 4, 2), (36, .iload_n 2, 1), (37, .iastore, 1), (38, .aload_n 0, 1), (39, .getfield 22, 3), (42, .iload 4, 2), (44, .iload_n 3, 1), (45, .iastore, 1), (46, .aload_n 0, 1), (47, .dup, 1), (48, .getfield 9, 3), (51, .iconst 1, 1), (52, .iadd, 1), (53, .putfield 9, 3), (56, .iload 4, 2), (58, .ireturn, 1)]
set_option maxRecDepth 100000 in
theorem dX0_add_0_g : dX0_add_0_l.all (fun x => decide (decode cX0_add x.1 = .ok x.2)) = true := by decide +kernel
theorem dX0_add_0 : decode cX0_add 0 = .ok (.aload_n 0, 1) := nq_d dX0_add_0_g (n := 0) rfl
theorem dX0_add_1 : decode cX0_add 1 = .ok (.getfield 9, 3) := nq_d dX0_add_0_g (n := 1) rfl
theorem dX0_add_4 : decode cX0_add 4 = .ok (.istore 4, 2) := nq_d dX0_add_0_g (n := 2) rfl
theorem dX0_add_6 : decode cX0_add 6 = .ok (.iload 4, 2) := nq_d dX0_add_0_g (n := 3) rfl
theorem dX0_add_8 : decode cX0_add 8 = .ok (.ifCond .lt 10, 3) := nq_d dX0_add_0_g (n := 4) rfl
theorem dX0_add_11 : decode cX0_add 11 = .ok (.iload 4, 2) := nq_d dX0_add_0_g (n := 5) rfl
theorem dX0_add_13 : decode cX0_add 13 = .ok (.bipush 6, 2) := nq_d dX0_add_0_g (n := 6) rfl
theorem dX0_add_15 : decode cX0_add 15 = .ok (.if_icmp .lt 7, 3) := nq_d dX0_add_0_g (n := 7) rfl
theorem dX0_add_18 : decode cX0_add 18 = .ok (.sipush (-1004), 3) := nq_d dX0_add_0_g (n := 8) rfl
theorem dX0_add_21 : decode cX0_add 21 = .ok (.ireturn, 1) := nq_d dX0_add_0_g (n := 9) rfl
theorem dX0_add_22 : decode cX0_add 22 = .ok (.aload_n 0, 1) := nq_d dX0_add_0_g (n := 10) rfl
theorem dX0_add_23 : decode cX0_add 23 = .ok (.getfield 15, 3) := nq_d dX0_add_0_g (n := 11) rfl
theorem dX0_add_26 : decode cX0_add 26 = .ok (.iload 4, 2) := nq_d dX0_add_0_g (n := 12) rfl
theorem dX0_add_28 : decode cX0_add 28 = .ok (.iload_n 1, 1) := nq_d dX0_add_0_g (n := 13) rfl
theorem dX0_add_29 : decode cX0_add 29 = .ok (.iastore, 1) := nq_d dX0_add_0_g (n := 14) rfl
theorem dX0_add_30 : decode cX0_add 30 = .ok (.aload_n 0, 1) := nq_d dX0_add_0_g (n := 15) rfl
theorem dX0_add_31 : decode cX0_add 31 = .ok (.getfield 19, 3) := nq_d dX0_add_0_g (n := 16) rfl
theorem dX0_add_34 : decode cX0_add 34 = .ok (.iload 4, 2) := nq_d dX0_add_0_g (n := 17) rfl
theorem dX0_add_36 : decode cX0_add 36 = .ok (.iload_n 2, 1) := nq_d dX0_add_0_g (n := 18) rfl
theorem dX0_add_37 : decode cX0_add 37 = .ok (.iastore, 1) := nq_d dX0_add_0_g (n := 19) rfl
theorem dX0_add_38 : decode cX0_add 38 = .ok (.aload_n 0, 1) := nq_d dX0_add_0_g (n := 20) rfl
theorem dX0_add_39 : decode cX0_add 39 = .ok (.getfield 22, 3) := nq_d dX0_add_0_g (n := 21) rfl
theorem dX0_add_42 : decode cX0_add 42 = .ok (.iload 4, 2) := nq_d dX0_add_0_g (n := 22) rfl
theorem dX0_add_44 : decode cX0_add 44 = .ok (.iload_n 3, 1) := nq_d dX0_add_0_g (n := 23) rfl
theorem dX0_add_45 : decode cX0_add 45 = .ok (.iastore, 1) := nq_d dX0_add_0_g (n := 24) rfl
theorem dX0_add_46 : decode cX0_add 46 = .ok (.aload_n 0, 1) := nq_d dX0_add_0_g (n := 25) rfl
theorem dX0_add_47 : decode cX0_add 47 = .ok (.dup, 1) := nq_d dX0_add_0_g (n := 26) rfl
theorem dX0_add_48 : decode cX0_add 48 = .ok (.getfield 9, 3) := nq_d dX0_add_0_g (n := 27) rfl
theorem dX0_add_51 : decode cX0_add 51 = .ok (.iconst 1, 1) := nq_d dX0_add_0_g (n := 28) rfl
theorem dX0_add_52 : decode cX0_add 52 = .ok (.iadd, 1) := nq_d dX0_add_0_g (n := 29) rfl
theorem dX0_add_53 : decode cX0_add 53 = .ok (.putfield 9, 3) := nq_d dX0_add_0_g (n := 30) rfl
theorem dX0_add_56 : decode cX0_add 56 = .ok (.iload 4, 2) := nq_d dX0_add_0_g (n := 31) rfl
theorem dX0_add_58 : decode cX0_add 58 = .ok (.ireturn, 1) := nq_d dX0_add_0_g (n := 32) rfl
set_option maxRecDepth 100000 in
theorem ggX0_remove_X0_knows : GoodIn wsX0_remove wsX0_knows := goodIn_sub (sub_c (nq_m (n := 9) rfl) (sub_c (nq_m (n := 1) rfl) (sub_c (nq_m (n := 10) rfl) (sub_c (nq_m (n := 11) rfl) (sub_c (nq_m (n := 12) rfl) (sub_c (nq_m (n := 13) rfl) sub_n)))))) (by decide +kernel)
set_option maxRecDepth 100000 in
theorem gX0_remove_X0_knows : GoodIn wsX0_remove (wsV RX0 31 RX0 yX0_knows wsX0_knows) := goodIn_app (goodIn_sub (sub_c (nq_m (n := 5) rfl) (sub_c (nq_m (n := 6) rfl) (sub_c (nq_m (n := 7) rfl) (sub_c (nq_m (n := 8) rfl) sub_n)))) (by decide +kernel)) ggX0_remove_X0_knows
noncomputable def dX0_remove_0_l : List (Nat × Instr × Nat) := [(0, .aload_n 0, 1), (1, .iload_n 1, 1), (2, .invokevirtual 31, 3), (5, .ifCond .ne 4, 3), (8, .return_, 1), (9, .iload_n 1, 1), (10, .istore_n 2, 1), (11, .iload_n 2, 1), (12, .iconst 1, 1), (13, .iadd, 1), (14, .aload_n 0, 1), (15, .getfield 9, 3), (18, .if_icmp .ge 59, 3), (21, .iload_n 2, 1), (22, .iconst 1, 1), (23, .iadd, 1), (24, .bipush 6, 2), (26, .if_icmp .ge 51, 3), (29, .aload_n 0, 1), (30, .getfield 15, 3), (33, .iload_n 2, 1), (34, .aload_n 0, 1), (35, .getfield 15, 3), (38, .iload_n 2, 1), (39, .iconst 1, 1), (40, .iadd, 1), (41, .iaload, 1), (42, .iastore, 1), (43, .aload_n 0, 1), (44, .getfield 19, 3), (47, .iload_n 2, 1), (48, .aload_n 0, 1), (49, .getfield 19, 3), (52, .iload_n 2, 1), (53, .iconst 1, 1), (54, .iadd, 1), (55, .iaload, 1), (56, .iastore, 1), (57, .aload_n 0, 1), (58, .getfield 22, 3)]
set_option maxRecDepth 100000 in
theorem dX0_remove_0_g : dX0_remove_0_l.all (fun x => decide (decode cX0_remove x.1 = .ok x.2)) = true := by decide +kernel
theorem dX0_remove_0 : decode cX0_remove 0 = .ok (.aload_n 0, 1) := nq_d dX0_remove_0_g (n := 0) rfl
theorem dX0_remove_1 : decode cX0_remove 1 = .ok (.iload_n 1, 1) := nq_d dX0_remove_0_g (n := 1) rfl
theorem dX0_remove_2 : decode cX0_remove 2 = .ok (.invokevirtual 31, 3) := nq_d dX0_remove_0_g (n := 2) rfl
theorem dX0_remove_5 : decode cX0_remove 5 = .ok (.ifCond .ne 4, 3) := nq_d dX0_remove_0_g (n := 3) rfl
theorem dX0_remove_8 : decode cX0_remove 8 = .ok (.return_, 1) := nq_d dX0_remove_0_g (n := 4) rfl
theorem dX0_remove_9 : decode cX0_remove 9 = .ok (.iload_n 1, 1) := nq_d dX0_remove_0_g (n := 5) rfl
theorem dX0_remove_10 : decode cX0_remove 10 = .ok (.istore_n 2, 1) := nq_d dX0_remove_0_g (n := 6) rfl
theorem dX0_remove_11 : decode cX0_remove 11 = .ok (.iload_n 2, 1) := nq_d dX0_remove_0_g (n := 7) rfl
theorem dX0_remove_12 : decode cX0_remove 12 = .ok (.iconst 1, 1) := nq_d dX0_remove_0_g (n := 8) rfl
theorem dX0_remove_13 : decode cX0_remove 13 = .ok (.iadd, 1) := nq_d dX0_remove_0_g (n := 9) rfl
theorem dX0_remove_14 : decode cX0_remove 14 = .ok (.aload_n 0, 1) := nq_d dX0_remove_0_g (n := 10) rfl
theorem dX0_remove_15 : decode cX0_remove 15 = .ok (.getfield 9, 3) := nq_d dX0_remove_0_g (n := 11) rfl
theorem dX0_remove_18 : decode cX0_remove 18 = .ok (.if_icmp .ge 59, 3) := nq_d dX0_remove_0_g (n := 12) rfl
theorem dX0_remove_21 : decode cX0_remove 21 = .ok (.iload_n 2, 1) := nq_d dX0_remove_0_g (n := 13) rfl
theorem dX0_remove_22 : decode cX0_remove 22 = .ok (.iconst 1, 1) := nq_d dX0_remove_0_g (n := 14) rfl
theorem dX0_remove_23 : decode cX0_remove 23 = .ok (.iadd, 1) := nq_d dX0_remove_0_g (n := 15) rfl
theorem dX0_remove_24 : decode cX0_remove 24 = .ok (.bipush 6, 2) := nq_d dX0_remove_0_g (n := 16) rfl
theorem dX0_remove_26 : decode cX0_remove 26 = .ok (.if_icmp .ge 51, 3) := nq_d dX0_remove_0_g (n := 17) rfl
theorem dX0_remove_29 : decode cX0_remove 29 = .ok (.aload_n 0, 1) := nq_d dX0_remove_0_g (n := 18) rfl
theorem dX0_remove_30 : decode cX0_remove 30 = .ok (.getfield 15, 3) := nq_d dX0_remove_0_g (n := 19) rfl
theorem dX0_remove_33 : decode cX0_remove 33 = .ok (.iload_n 2, 1) := nq_d dX0_remove_0_g (n := 20) rfl
theorem dX0_remove_34 : decode cX0_remove 34 = .ok (.aload_n 0, 1) := nq_d dX0_remove_0_g (n := 21) rfl
theorem dX0_remove_35 : decode cX0_remove 35 = .ok (.getfield 15, 3) := nq_d dX0_remove_0_g (n := 22) rfl
theorem dX0_remove_38 : decode cX0_remove 38 = .ok (.iload_n 2, 1) := nq_d dX0_remove_0_g (n := 23) rfl
theorem dX0_remove_39 : decode cX0_remove 39 = .ok (.iconst 1, 1) := nq_d dX0_remove_0_g (n := 24) rfl
theorem dX0_remove_40 : decode cX0_remove 40 = .ok (.iadd, 1) := nq_d dX0_remove_0_g (n := 25) rfl
theorem dX0_remove_41 : decode cX0_remove 41 = .ok (.iaload, 1) := nq_d dX0_remove_0_g (n := 26) rfl
theorem dX0_remove_42 : decode cX0_remove 42 = .ok (.iastore, 1) := nq_d dX0_remove_0_g (n := 27) rfl
theorem dX0_remove_43 : decode cX0_remove 43 = .ok (.aload_n 0, 1) := nq_d dX0_remove_0_g (n := 28) rfl
theorem dX0_remove_44 : decode cX0_remove 44 = .ok (.getfield 19, 3) := nq_d dX0_remove_0_g (n := 29) rfl
theorem dX0_remove_47 : decode cX0_remove 47 = .ok (.iload_n 2, 1) := nq_d dX0_remove_0_g (n := 30) rfl
theorem dX0_remove_48 : decode cX0_remove 48 = .ok (.aload_n 0, 1) := nq_d dX0_remove_0_g (n := 31) rfl
theorem dX0_remove_49 : decode cX0_remove 49 = .ok (.getfield 19, 3) := nq_d dX0_remove_0_g (n := 32) rfl
theorem dX0_remove_52 : decode cX0_remove 52 = .ok (.iload_n 2, 1) := nq_d dX0_remove_0_g (n := 33) rfl
theorem dX0_remove_53 : decode cX0_remove 53 = .ok (.iconst 1, 1) := nq_d dX0_remove_0_g (n := 34) rfl
theorem dX0_remove_54 : decode cX0_remove 54 = .ok (.iadd, 1) := nq_d dX0_remove_0_g (n := 35) rfl
theorem dX0_remove_55 : decode cX0_remove 55 = .ok (.iaload, 1) := nq_d dX0_remove_0_g (n := 36) rfl
theorem dX0_remove_56 : decode cX0_remove 56 = .ok (.iastore, 1) := nq_d dX0_remove_0_g (n := 37) rfl
theorem dX0_remove_57 : decode cX0_remove 57 = .ok (.aload_n 0, 1) := nq_d dX0_remove_0_g (n := 38) rfl
theorem dX0_remove_58 : decode cX0_remove 58 = .ok (.getfield 22, 3) := nq_d dX0_remove_0_g (n := 39) rfl
noncomputable def dX0_remove_61_l : List (Nat × Instr × Nat) := [(61, .iload_n 2, 1), (62, .aload_n 0, 1), (63, .getfield 22, 3), (66, .iload_n 2, 1), (67, .iconst 1, 1), (68, .iadd, 1), (69, .iaload, 1), (70, .iastore, 1), (71, .iinc 2 1, 3), (74, .goto (-63), 3), (77, .aload_n 0, 1), (78, .dup, 1), (79, .getfield 9, 3), (82, .iconst 1, 1), (83, .isub, 1), (84, .putfield 9, 3), (87, .return_, 1)]
set_option maxRecDepth 100000 in
theorem dX0_remove_61_g : dX0_remove_61_l.all (fun x => decide (decode cX0_remove x.1 = .ok x.2)) = true := by decide +kernel
theorem dX0_remove_61 : decode cX0_remove 61 = .ok (.iload_n 2, 1) := nq_d dX0_remove_61_g (n := 0) rfl
theorem dX0_remove_62 : decode cX0_remove 62 = .ok (.aload_n 0, 1) := nq_d dX0_remove_61_g (n := 1) rfl
theorem dX0_remove_63 : decode cX0_remove 63 = .ok (.getfield 22, 3) := nq_d dX0_remove_61_g (n := 2) rfl
theorem dX0_remove_66 : decode cX0_remove 66 = .ok (.iload_n 2, 1) := nq_d dX0_remove_61_g (n := 3) rfl
theorem dX0_remove_67 : decode cX0_remove 67 = .ok (.iconst 1, 1) := nq_d dX0_remove_61_g (n := 4) rfl
theorem dX0_remove_68 : decode cX0_remove 68 = .ok (.iadd, 1) := nq_d dX0_remove_61_g (n := 5) rfl
theorem dX0_remove_69 : decode cX0_remove 69 = .ok (.iaload, 1) := nq_d dX0_remove_61_g (n := 6) rfl
theorem dX0_remove_70 : decode cX0_remove 70 = .ok (.iastore, 1) := nq_d dX0_remove_61_g (n := 7) rfl
theorem dX0_remove_71 : decode cX0_remove 71 = .ok (.iinc 2 1, 3) := nq_d dX0_remove_61_g (n := 8) rfl
theorem dX0_remove_74 : decode cX0_remove 74 = .ok (.goto (-63), 3) := nq_d dX0_remove_61_g (n := 9) rfl
theorem dX0_remove_77 : decode cX0_remove 77 = .ok (.aload_n 0, 1) := nq_d dX0_remove_61_g (n := 10) rfl
theorem dX0_remove_78 : decode cX0_remove 78 = .ok (.dup, 1) := nq_d dX0_remove_61_g (n := 11) rfl
theorem dX0_remove_79 : decode cX0_remove 79 = .ok (.getfield 9, 3) := nq_d dX0_remove_61_g (n := 12) rfl
theorem dX0_remove_82 : decode cX0_remove 82 = .ok (.iconst 1, 1) := nq_d dX0_remove_61_g (n := 13) rfl
theorem dX0_remove_83 : decode cX0_remove 83 = .ok (.isub, 1) := nq_d dX0_remove_61_g (n := 14) rfl
theorem dX0_remove_84 : decode cX0_remove 84 = .ok (.putfield 9, 3) := nq_d dX0_remove_61_g (n := 15) rfl
theorem dX0_remove_87 : decode cX0_remove 87 = .ok (.return_, 1) := nq_d dX0_remove_61_g (n := 16) rfl
set_option maxRecDepth 100000 in
theorem ggX0_thingsFor_X0_knows : GoodIn wsX0_thingsFor wsX0_knows := goodIn_sub (sub_c (nq_m (n := 9) rfl) (sub_c (nq_m (n := 10) rfl) (sub_c (nq_m (n := 32) rfl) (sub_c (nq_m (n := 33) rfl) (sub_c (nq_m (n := 34) rfl) (sub_c (nq_m (n := 35) rfl) sub_n)))))) (by decide +kernel)
set_option maxRecDepth 100000 in
theorem gX0_thingsFor_X0_knows : GoodIn wsX0_thingsFor (wsV RX0 31 RX0 yX0_knows wsX0_knows) := goodIn_app (goodIn_sub (sub_c (nq_m (n := 5) rfl) (sub_c (nq_m (n := 6) rfl) (sub_c (nq_m (n := 7) rfl) (sub_c (nq_m (n := 8) rfl) sub_n)))) (by decide +kernel)) ggX0_thingsFor_X0_knows
set_option maxRecDepth 100000 in
theorem ggX0_thingsFor_X2_kindOf : GoodIn wsX0_thingsFor wsX2_kindOf := goodIn_sub (sub_c (nq_m (n := 15) rfl) (sub_c (nq_m (n := 16) rfl) (sub_c (nq_m (n := 17) rfl) (sub_c (nq_m (n := 18) rfl) (sub_c (nq_m (n := 19) rfl) (sub_c (nq_m (n := 14) rfl) (sub_c (nq_m (n := 20) rfl) (sub_c (nq_m (n := 21) rfl) (sub_c (nq_m (n := 36) rfl) (sub_c (nq_m (n := 37) rfl) (sub_c (nq_m (n := 38) rfl) (sub_c (nq_m (n := 39) rfl) (sub_c (nq_m (n := 40) rfl) (sub_c (nq_m (n := 41) rfl) (sub_c (nq_m (n := 42) rfl) (sub_c (nq_m (n := 43) rfl) sub_n)))))))))))))))) (by decide +kernel)
set_option maxRecDepth 100000 in
theorem gX0_thingsFor_X2_kindOf : GoodIn wsX0_thingsFor (wsV RX0 35 RX2 yX2_kindOf wsX2_kindOf) := goodIn_app (goodIn_sub (sub_c (nq_m (n := 11) rfl) (sub_c (nq_m (n := 12) rfl) (sub_c (nq_m (n := 13) rfl) (sub_c (nq_m (n := 14) rfl) sub_n)))) (by decide +kernel)) ggX0_thingsFor_X2_kindOf
set_option maxRecDepth 100000 in
theorem ggX0_thingsFor_X2_marksOf : GoodIn wsX0_thingsFor wsX2_marksOf := goodIn_sub (sub_c (nq_m (n := 25) rfl) (sub_c (nq_m (n := 26) rfl) (sub_c (nq_m (n := 17) rfl) (sub_c (nq_m (n := 18) rfl) (sub_c (nq_m (n := 19) rfl) (sub_c (nq_m (n := 14) rfl) (sub_c (nq_m (n := 20) rfl) (sub_c (nq_m (n := 21) rfl) (sub_c (nq_m (n := 36) rfl) (sub_c (nq_m (n := 37) rfl) (sub_c (nq_m (n := 38) rfl) (sub_c (nq_m (n := 39) rfl) (sub_c (nq_m (n := 40) rfl) (sub_c (nq_m (n := 41) rfl) (sub_c (nq_m (n := 42) rfl) (sub_c (nq_m (n := 43) rfl) sub_n)))))))))))))))) (by decide +kernel)
set_option maxRecDepth 100000 in
theorem gX0_thingsFor_X2_marksOf : GoodIn wsX0_thingsFor (wsV RX0 42 RX2 yX2_marksOf wsX2_marksOf) := goodIn_app (goodIn_sub (sub_c (nq_m (n := 22) rfl) (sub_c (nq_m (n := 23) rfl) (sub_c (nq_m (n := 24) rfl) (sub_c (nq_m (n := 14) rfl) sub_n)))) (by decide +kernel)) ggX0_thingsFor_X2_marksOf
set_option maxRecDepth 100000 in
theorem ggX0_thingsFor_X2_hangs : GoodIn wsX0_thingsFor wsX2_hangs := goodIn_sub (sub_c (nq_m (n := 30) rfl) (sub_c (nq_m (n := 31) rfl) (sub_c (nq_m (n := 17) rfl) (sub_c (nq_m (n := 18) rfl) (sub_c (nq_m (n := 19) rfl) (sub_c (nq_m (n := 14) rfl) (sub_c (nq_m (n := 20) rfl) (sub_c (nq_m (n := 21) rfl) (sub_c (nq_m (n := 36) rfl) (sub_c (nq_m (n := 37) rfl) (sub_c (nq_m (n := 38) rfl) (sub_c (nq_m (n := 39) rfl) (sub_c (nq_m (n := 40) rfl) (sub_c (nq_m (n := 41) rfl) (sub_c (nq_m (n := 42) rfl) (sub_c (nq_m (n := 43) rfl) sub_n)))))))))))))))) (by decide +kernel)
set_option maxRecDepth 100000 in
theorem gX0_thingsFor_X2_hangs : GoodIn wsX0_thingsFor (wsV RX0 45 RX2 yX2_hangs wsX2_hangs) := goodIn_app (goodIn_sub (sub_c (nq_m (n := 27) rfl) (sub_c (nq_m (n := 28) rfl) (sub_c (nq_m (n := 29) rfl) (sub_c (nq_m (n := 14) rfl) sub_n)))) (by decide +kernel)) ggX0_thingsFor_X2_hangs
noncomputable def dX0_thingsFor_0_l : List (Nat × Instr × Nat) := [(0, .aload_n 0, 1), (1, .iload_n 1, 1), (2, .invokevirtual 31, 3), (5, .ifCond .ne 5, 3), (8, .iconst 0, 1), (9, .ireturn, 1), (10, .iconst 0, 1), (11, .istore_n 3, 1), (12, .aload_n 2, 1), (13, .aload_n 0, 1), (14, .getfield 15, 3), (17, .iload_n 1, 1), (18, .iaload, 1), (19, .invokevirtual 35, 3), (22, .istore 4, 2), (24, .iconst 0, 1), (25, .istore 5, 2), (27, .iload 5, 2), (29, .aload_n 2, 1), (30, .getfield 41, 3), (33, .if_icmp .ge 82, 3), (36, .aload_n 0, 1), (37, .getfield 19, 3), (40, .iload_n 1, 1), (41, .iaload, 1), (42, .aload_n 2, 1), (43, .iload 5, 2), (45, .invokevirtual 42, 3), (48, .iconst (-1), 1), (49, .ixor, 1), (50, .iand, 1), (51, .ifCond .ne 23, 3), (54, .aload_n 0, 1), (55, .getfield 22, 3), (58, .iload_n 1, 1), (59, .iaload, 1), (60, .aload_n 2, 1), (61, .iload 5, 2), (63, .invokevirtual 42, 3), (66, .iand, 1)]
set_option maxRecDepth 100000 in
theorem dX0_thingsFor_0_g : dX0_thingsFor_0_l.all (fun x => decide (decode cX0_thingsFor x.1 = .ok x.2)) = true := by decide +kernel
theorem dX0_thingsFor_0 : decode cX0_thingsFor 0 = .ok (.aload_n 0, 1) := nq_d dX0_thingsFor_0_g (n := 0) rfl
theorem dX0_thingsFor_1 : decode cX0_thingsFor 1 = .ok (.iload_n 1, 1) := nq_d dX0_thingsFor_0_g (n := 1) rfl
theorem dX0_thingsFor_2 : decode cX0_thingsFor 2 = .ok (.invokevirtual 31, 3) := nq_d dX0_thingsFor_0_g (n := 2) rfl
theorem dX0_thingsFor_5 : decode cX0_thingsFor 5 = .ok (.ifCond .ne 5, 3) := nq_d dX0_thingsFor_0_g (n := 3) rfl
theorem dX0_thingsFor_8 : decode cX0_thingsFor 8 = .ok (.iconst 0, 1) := nq_d dX0_thingsFor_0_g (n := 4) rfl
theorem dX0_thingsFor_9 : decode cX0_thingsFor 9 = .ok (.ireturn, 1) := nq_d dX0_thingsFor_0_g (n := 5) rfl
theorem dX0_thingsFor_10 : decode cX0_thingsFor 10 = .ok (.iconst 0, 1) := nq_d dX0_thingsFor_0_g (n := 6) rfl
theorem dX0_thingsFor_11 : decode cX0_thingsFor 11 = .ok (.istore_n 3, 1) := nq_d dX0_thingsFor_0_g (n := 7) rfl
theorem dX0_thingsFor_12 : decode cX0_thingsFor 12 = .ok (.aload_n 2, 1) := nq_d dX0_thingsFor_0_g (n := 8) rfl
theorem dX0_thingsFor_13 : decode cX0_thingsFor 13 = .ok (.aload_n 0, 1) := nq_d dX0_thingsFor_0_g (n := 9) rfl
theorem dX0_thingsFor_14 : decode cX0_thingsFor 14 = .ok (.getfield 15, 3) := nq_d dX0_thingsFor_0_g (n := 10) rfl
theorem dX0_thingsFor_17 : decode cX0_thingsFor 17 = .ok (.iload_n 1, 1) := nq_d dX0_thingsFor_0_g (n := 11) rfl
theorem dX0_thingsFor_18 : decode cX0_thingsFor 18 = .ok (.iaload, 1) := nq_d dX0_thingsFor_0_g (n := 12) rfl
theorem dX0_thingsFor_19 : decode cX0_thingsFor 19 = .ok (.invokevirtual 35, 3) := nq_d dX0_thingsFor_0_g (n := 13) rfl
theorem dX0_thingsFor_22 : decode cX0_thingsFor 22 = .ok (.istore 4, 2) := nq_d dX0_thingsFor_0_g (n := 14) rfl
theorem dX0_thingsFor_24 : decode cX0_thingsFor 24 = .ok (.iconst 0, 1) := nq_d dX0_thingsFor_0_g (n := 15) rfl
theorem dX0_thingsFor_25 : decode cX0_thingsFor 25 = .ok (.istore 5, 2) := nq_d dX0_thingsFor_0_g (n := 16) rfl
theorem dX0_thingsFor_27 : decode cX0_thingsFor 27 = .ok (.iload 5, 2) := nq_d dX0_thingsFor_0_g (n := 17) rfl
theorem dX0_thingsFor_29 : decode cX0_thingsFor 29 = .ok (.aload_n 2, 1) := nq_d dX0_thingsFor_0_g (n := 18) rfl
theorem dX0_thingsFor_30 : decode cX0_thingsFor 30 = .ok (.getfield 41, 3) := nq_d dX0_thingsFor_0_g (n := 19) rfl
theorem dX0_thingsFor_33 : decode cX0_thingsFor 33 = .ok (.if_icmp .ge 82, 3) := nq_d dX0_thingsFor_0_g (n := 20) rfl
theorem dX0_thingsFor_36 : decode cX0_thingsFor 36 = .ok (.aload_n 0, 1) := nq_d dX0_thingsFor_0_g (n := 21) rfl
theorem dX0_thingsFor_37 : decode cX0_thingsFor 37 = .ok (.getfield 19, 3) := nq_d dX0_thingsFor_0_g (n := 22) rfl
theorem dX0_thingsFor_40 : decode cX0_thingsFor 40 = .ok (.iload_n 1, 1) := nq_d dX0_thingsFor_0_g (n := 23) rfl
theorem dX0_thingsFor_41 : decode cX0_thingsFor 41 = .ok (.iaload, 1) := nq_d dX0_thingsFor_0_g (n := 24) rfl
theorem dX0_thingsFor_42 : decode cX0_thingsFor 42 = .ok (.aload_n 2, 1) := nq_d dX0_thingsFor_0_g (n := 25) rfl
theorem dX0_thingsFor_43 : decode cX0_thingsFor 43 = .ok (.iload 5, 2) := nq_d dX0_thingsFor_0_g (n := 26) rfl
theorem dX0_thingsFor_45 : decode cX0_thingsFor 45 = .ok (.invokevirtual 42, 3) := nq_d dX0_thingsFor_0_g (n := 27) rfl
theorem dX0_thingsFor_48 : decode cX0_thingsFor 48 = .ok (.iconst (-1), 1) := nq_d dX0_thingsFor_0_g (n := 28) rfl
theorem dX0_thingsFor_49 : decode cX0_thingsFor 49 = .ok (.ixor, 1) := nq_d dX0_thingsFor_0_g (n := 29) rfl
theorem dX0_thingsFor_50 : decode cX0_thingsFor 50 = .ok (.iand, 1) := nq_d dX0_thingsFor_0_g (n := 30) rfl
theorem dX0_thingsFor_51 : decode cX0_thingsFor 51 = .ok (.ifCond .ne 23, 3) := nq_d dX0_thingsFor_0_g (n := 31) rfl
theorem dX0_thingsFor_54 : decode cX0_thingsFor 54 = .ok (.aload_n 0, 1) := nq_d dX0_thingsFor_0_g (n := 32) rfl
theorem dX0_thingsFor_55 : decode cX0_thingsFor 55 = .ok (.getfield 22, 3) := nq_d dX0_thingsFor_0_g (n := 33) rfl
theorem dX0_thingsFor_58 : decode cX0_thingsFor 58 = .ok (.iload_n 1, 1) := nq_d dX0_thingsFor_0_g (n := 34) rfl
theorem dX0_thingsFor_59 : decode cX0_thingsFor 59 = .ok (.iaload, 1) := nq_d dX0_thingsFor_0_g (n := 35) rfl
theorem dX0_thingsFor_60 : decode cX0_thingsFor 60 = .ok (.aload_n 2, 1) := nq_d dX0_thingsFor_0_g (n := 36) rfl
theorem dX0_thingsFor_61 : decode cX0_thingsFor 61 = .ok (.iload 5, 2) := nq_d dX0_thingsFor_0_g (n := 37) rfl
theorem dX0_thingsFor_63 : decode cX0_thingsFor 63 = .ok (.invokevirtual 42, 3) := nq_d dX0_thingsFor_0_g (n := 38) rfl
theorem dX0_thingsFor_66 : decode cX0_thingsFor 66 = .ok (.iand, 1) := nq_d dX0_thingsFor_0_g (n := 39) rfl
noncomputable def dX0_thingsFor_67_l : List (Nat × Instr × Nat) := [(67, .ifCond .ne 7, 3), (70, .iconst 1, 1), (71, .goto 4, 3), (74, .iconst 0, 1), (75, .istore 6, 2), (77, .iload 6, 2), (79, .ifCond .eq 30, 3), (82, .aload_n 2, 1), (83, .iload 5, 2), (85, .invokevirtual 45, 3), (88, .ifCond .eq 21, 3), (91, .aload_n 2, 1), (92, .iload 5, 2), (94, .invokevirtual 35, 3), (97, .iload 4, 2), (99, .if_icmp .ne 10, 3), (102, .iload_n 3, 1), (103, .iconst 1, 1), (104, .iload 5, 2), (106, .ishl, 1), (107, .ior, 1), (108, .istore_n 3, 1), (109, .iinc 5 1, 3), (112, .goto (-85), 3), (115, .iload_n 3, 1), (116, .ireturn, 1)]
set_option maxRecDepth 100000 in
theorem dX0_thingsFor_67_g : dX0_thingsFor_67_l.all (fun x => decide (decode cX0_thingsFor x.1 = .ok x.2)) = true := by decide +kernel
theorem dX0_thingsFor_67 : decode cX0_thingsFor 67 = .ok (.ifCond .ne 7, 3) := nq_d dX0_thingsFor_67_g (n := 0) rfl
theorem dX0_thingsFor_70 : decode cX0_thingsFor 70 = .ok (.iconst 1, 1) := nq_d dX0_thingsFor_67_g (n := 1) rfl
theorem dX0_thingsFor_71 : decode cX0_thingsFor 71 = .ok (.goto 4, 3) := nq_d dX0_thingsFor_67_g (n := 2) rfl
theorem dX0_thingsFor_74 : decode cX0_thingsFor 74 = .ok (.iconst 0, 1) := nq_d dX0_thingsFor_67_g (n := 3) rfl
theorem dX0_thingsFor_75 : decode cX0_thingsFor 75 = .ok (.istore 6, 2) := nq_d dX0_thingsFor_67_g (n := 4) rfl
theorem dX0_thingsFor_77 : decode cX0_thingsFor 77 = .ok (.iload 6, 2) := nq_d dX0_thingsFor_67_g (n := 5) rfl
theorem dX0_thingsFor_79 : decode cX0_thingsFor 79 = .ok (.ifCond .eq 30, 3) := nq_d dX0_thingsFor_67_g (n := 6) rfl
theorem dX0_thingsFor_82 : decode cX0_thingsFor 82 = .ok (.aload_n 2, 1) := nq_d dX0_thingsFor_67_g (n := 7) rfl
theorem dX0_thingsFor_83 : decode cX0_thingsFor 83 = .ok (.iload 5, 2) := nq_d dX0_thingsFor_67_g (n := 8) rfl
theorem dX0_thingsFor_85 : decode cX0_thingsFor 85 = .ok (.invokevirtual 45, 3) := nq_d dX0_thingsFor_67_g (n := 9) rfl
theorem dX0_thingsFor_88 : decode cX0_thingsFor 88 = .ok (.ifCond .eq 21, 3) := nq_d dX0_thingsFor_67_g (n := 10) rfl
theorem dX0_thingsFor_91 : decode cX0_thingsFor 91 = .ok (.aload_n 2, 1) := nq_d dX0_thingsFor_67_g (n := 11) rfl
theorem dX0_thingsFor_92 : decode cX0_thingsFor 92 = .ok (.iload 5, 2) := nq_d dX0_thingsFor_67_g (n := 12) rfl
theorem dX0_thingsFor_94 : decode cX0_thingsFor 94 = .ok (.invokevirtual 35, 3) := nq_d dX0_thingsFor_67_g (n := 13) rfl
theorem dX0_thingsFor_97 : decode cX0_thingsFor 97 = .ok (.iload 4, 2) := nq_d dX0_thingsFor_67_g (n := 14) rfl
theorem dX0_thingsFor_99 : decode cX0_thingsFor 99 = .ok (.if_icmp .ne 10, 3) := nq_d dX0_thingsFor_67_g (n := 15) rfl
theorem dX0_thingsFor_102 : decode cX0_thingsFor 102 = .ok (.iload_n 3, 1) := nq_d dX0_thingsFor_67_g (n := 16) rfl
theorem dX0_thingsFor_103 : decode cX0_thingsFor 103 = .ok (.iconst 1, 1) := nq_d dX0_thingsFor_67_g (n := 17) rfl
theorem dX0_thingsFor_104 : decode cX0_thingsFor 104 = .ok (.iload 5, 2) := nq_d dX0_thingsFor_67_g (n := 18) rfl
theorem dX0_thingsFor_106 : decode cX0_thingsFor 106 = .ok (.ishl, 1) := nq_d dX0_thingsFor_67_g (n := 19) rfl
theorem dX0_thingsFor_107 : decode cX0_thingsFor 107 = .ok (.ior, 1) := nq_d dX0_thingsFor_67_g (n := 20) rfl
theorem dX0_thingsFor_108 : decode cX0_thingsFor 108 = .ok (.istore_n 3, 1) := nq_d dX0_thingsFor_67_g (n := 21) rfl
theorem dX0_thingsFor_109 : decode cX0_thingsFor 109 = .ok (.iinc 5 1, 3) := nq_d dX0_thingsFor_67_g (n := 22) rfl
theorem dX0_thingsFor_112 : decode cX0_thingsFor 112 = .ok (.goto (-85), 3) := nq_d dX0_thingsFor_67_g (n := 23) rfl
theorem dX0_thingsFor_115 : decode cX0_thingsFor 115 = .ok (.iload_n 3, 1) := nq_d dX0_thingsFor_67_g (n := 24) rfl
theorem dX0_thingsFor_116 : decode cX0_thingsFor 116 = .ok (.ireturn, 1) := nq_d dX0_thingsFor_67_g (n := 25) rfl
set_option maxRecDepth 100000 in
theorem ggX0_fewestAsked_X0_thingsFor : GoodIn wsX0_fewestAsked wsX0_thingsFor := goodIn_sub (sub_c (nq_m (n := 5) rfl) (sub_c (nq_m (n := 6) rfl) (sub_c (nq_m (n := 7) rfl) (sub_c (nq_m (n := 8) rfl) (sub_c (nq_m (n := 9) rfl) (sub_c (nq_m (n := 10) rfl) (sub_c (nq_m (n := 11) rfl) (sub_c (nq_m (n := 12) rfl) (sub_c (nq_m (n := 4) rfl) (sub_c (nq_m (n := 13) rfl) (sub_c (nq_m (n := 14) rfl) (sub_c (nq_m (n := 15) rfl) (sub_c (nq_m (n := 16) rfl) (sub_c (nq_m (n := 17) rfl) (sub_c (nq_m (n := 18) rfl) (sub_c (nq_m (n := 19) rfl) (sub_c (nq_m (n := 20) rfl) (sub_c (nq_m (n := 21) rfl) (sub_c (nq_m (n := 22) rfl) (sub_c (nq_m (n := 23) rfl) (sub_c (nq_m (n := 24) rfl) (sub_c (nq_m (n := 25) rfl) (sub_c (nq_m (n := 26) rfl) (sub_c (nq_m (n := 27) rfl) (sub_c (nq_m (n := 28) rfl) (sub_c (nq_m (n := 29) rfl) (sub_c (nq_m (n := 30) rfl) (sub_c (nq_m (n := 31) rfl) (sub_c (nq_m (n := 32) rfl) (sub_c (nq_m (n := 33) rfl) (sub_c (nq_m (n := 34) rfl) (sub_c (nq_m (n := 35) rfl) (sub_c (nq_m (n := 50) rfl) (sub_c (nq_m (n := 51) rfl) (sub_c (nq_m (n := 52) rfl) (sub_c (nq_m (n := 53) rfl) (sub_c (nq_m (n := 54) rfl) (sub_c (nq_m (n := 55) rfl) (sub_c (nq_m (n := 56) rfl) (sub_c (nq_m (n := 57) rfl) (sub_c (nq_m (n := 58) rfl) (sub_c (nq_m (n := 59) rfl) (sub_c (nq_m (n := 60) rfl) (sub_c (nq_m (n := 61) rfl) sub_n)))))))))))))))))))))))))))))))))))))))))))) (by decide +kernel)
set_option maxRecDepth 100000 in
theorem gX0_fewestAsked_X0_thingsFor : GoodIn wsX0_fewestAsked (wsV RX0 48 RX0 yX0_thingsFor wsX0_thingsFor) := goodIn_app (goodIn_sub (sub_c (nq_m (n := 1) rfl) (sub_c (nq_m (n := 2) rfl) (sub_c (nq_m (n := 3) rfl) (sub_c (nq_m (n := 4) rfl) sub_n)))) (by decide +kernel)) ggX0_fewestAsked_X0_thingsFor
set_option maxRecDepth 100000 in
theorem ggX0_fewestAsked_X0_guestOf : GoodIn wsX0_fewestAsked wsX0_guestOf := goodIn_sub (sub_c (nq_m (n := 39) rfl) (sub_c (nq_m (n := 6) rfl) (sub_c (nq_m (n := 10) rfl) (sub_c (nq_m (n := 11) rfl) (sub_c (nq_m (n := 12) rfl) (sub_c (nq_m (n := 4) rfl) (sub_c (nq_m (n := 13) rfl) (sub_c (nq_m (n := 14) rfl) (sub_c (nq_m (n := 50) rfl) (sub_c (nq_m (n := 51) rfl) (sub_c (nq_m (n := 52) rfl) (sub_c (nq_m (n := 53) rfl) sub_n)))))))))))) (by decide +kernel)
set_option maxRecDepth 100000 in
theorem gX0_fewestAsked_X0_guestOf : GoodIn wsX0_fewestAsked (wsV RX0 52 RX0 yX0_guestOf wsX0_guestOf) := goodIn_app (goodIn_sub (sub_c (nq_m (n := 36) rfl) (sub_c (nq_m (n := 37) rfl) (sub_c (nq_m (n := 38) rfl) (sub_c (nq_m (n := 4) rfl) sub_n)))) (by decide +kernel)) ggX0_fewestAsked_X0_guestOf
set_option maxRecDepth 100000 in
theorem ggX0_fewestAsked_X2_marksOf : GoodIn wsX0_fewestAsked wsX2_marksOf := goodIn_sub (sub_c (nq_m (n := 29) rfl) (sub_c (nq_m (n := 30) rfl) (sub_c (nq_m (n := 21) rfl) (sub_c (nq_m (n := 22) rfl) (sub_c (nq_m (n := 23) rfl) (sub_c (nq_m (n := 18) rfl) (sub_c (nq_m (n := 24) rfl) (sub_c (nq_m (n := 25) rfl) (sub_c (nq_m (n := 54) rfl) (sub_c (nq_m (n := 55) rfl) (sub_c (nq_m (n := 56) rfl) (sub_c (nq_m (n := 57) rfl) (sub_c (nq_m (n := 58) rfl) (sub_c (nq_m (n := 59) rfl) (sub_c (nq_m (n := 60) rfl) (sub_c (nq_m (n := 61) rfl) sub_n)))))))))))))))) (by decide +kernel)
set_option maxRecDepth 100000 in
theorem gX0_fewestAsked_X2_marksOf : GoodIn wsX0_fewestAsked (wsV RX0 42 RX2 yX2_marksOf wsX2_marksOf) := goodIn_app (goodIn_sub (sub_c (nq_m (n := 26) rfl) (sub_c (nq_m (n := 27) rfl) (sub_c (nq_m (n := 28) rfl) (sub_c (nq_m (n := 18) rfl) sub_n)))) (by decide +kernel)) ggX0_fewestAsked_X2_marksOf
set_option maxRecDepth 100000 in
theorem ggX0_fewestAsked_J6_bitCount_0f7a4 : GoodIn wsX0_fewestAsked wsJ6_bitCount_0f7a4 := goodIn_sub (sub_c (nq_m (n := 43) rfl) (sub_c (nq_m (n := 44) rfl) (sub_c (nq_m (n := 45) rfl) (sub_c (nq_m (n := 46) rfl) sub_n)))) (by decide +kernel)
set_option maxRecDepth 100000 in
theorem gX0_fewestAsked_J6_bitCount_0f7a4 : GoodIn wsX0_fewestAsked (va_wsS RX0 55 yJ6_bitCount_0f7a4 wsJ6_bitCount_0f7a4) := goodIn_app (goodIn_sub (sub_c (nq_m (n := 40) rfl) (sub_c (nq_m (n := 41) rfl) (sub_c (nq_m (n := 42) rfl) sub_n))) (by decide +kernel)) ggX0_fewestAsked_J6_bitCount_0f7a4
set_option maxRecDepth 100000 in
theorem ggX0_fewestAsked_X0_howManyAgree : GoodIn wsX0_fewestAsked wsX0_howManyAgree := goodIn_sub (sub_c (nq_m (n := 49) rfl) (sub_c (nq_m (n := 7) rfl) (sub_c (nq_m (n := 26) rfl) (sub_c (nq_m (n := 27) rfl) (sub_c (nq_m (n := 28) rfl) (sub_c (nq_m (n := 18) rfl) (sub_c (nq_m (n := 29) rfl) (sub_c (nq_m (n := 30) rfl) (sub_c (nq_m (n := 21) rfl) (sub_c (nq_m (n := 22) rfl) (sub_c (nq_m (n := 23) rfl) (sub_c (nq_m (n := 24) rfl) (sub_c (nq_m (n := 25) rfl) (sub_c (nq_m (n := 54) rfl) (sub_c (nq_m (n := 55) rfl) (sub_c (nq_m (n := 56) rfl) (sub_c (nq_m (n := 57) rfl) (sub_c (nq_m (n := 58) rfl) (sub_c (nq_m (n := 59) rfl) (sub_c (nq_m (n := 60) rfl) (sub_c (nq_m (n := 61) rfl) sub_n))))))))))))))))))))) (by decide +kernel)
set_option maxRecDepth 100000 in
theorem gX0_fewestAsked_X0_howManyAgree : GoodIn wsX0_fewestAsked (va_wsS RX0 60 yX0_howManyAgree wsX0_howManyAgree) := goodIn_app (goodIn_sub (sub_c (nq_m (n := 47) rfl) (sub_c (nq_m (n := 48) rfl) (sub_c (nq_m (n := 4) rfl) sub_n))) (by decide +kernel)) ggX0_fewestAsked_X0_howManyAgree
noncomputable def dX0_fewestAsked_0_l : List (Nat × Instr × Nat) := [(0, .aload_n 0, 1), (1, .iload_n 1, 1), (2, .aload_n 2, 1), (3, .invokevirtual 48, 3), (6, .istore_n 3, 1), (7, .aload_n 2, 1), (8, .aload_n 0, 1), (9, .iload_n 1, 1), (10, .invokevirtual 52, 3), (13, .invokevirtual 42, 3), (16, .istore 4, 2), (18, .iconst (-1), 1), (19, .istore 5, 2), (21, .iconst 0, 1), (22, .istore 6, 2), (24, .iload 6, 2), (26, .sipush 255, 3), (29, .if_icmp .gt 57, 3), (32, .iload 5, 2), (34, .iconst (-1), 1), (35, .if_icmp .eq 16, 3), (38, .iload 6, 2), (40, .invokestatic 55, 3), (43, .iload 5, 2), (45, .invokestatic 55, 3), (48, .if_icmp .ge 7, 3), (51, .iconst 1, 1), (52, .goto 4, 3), (55, .iconst 0, 1), (56, .istore 7, 2), (58, .iload 7, 2), (60, .ifCond .eq 20, 3), (63, .iload_n 3, 1), (64, .iload 4, 2), (66, .iload 6, 2), (68, .aload_n 2, 1), (69, .invokestatic 60, 3), (72, .iconst 1, 1), (73, .if_icmp .ne 7, 3), (76, .iload 6, 2)]
set_option maxRecDepth 100000 in
theorem dX0_fewestAsked_0_g : dX0_fewestAsked_0_l.all (fun x => decide (decode cX0_fewestAsked x.1 = .ok x.2)) = true := by decide +kernel
theorem dX0_fewestAsked_0 : decode cX0_fewestAsked 0 = .ok (.aload_n 0, 1) := nq_d dX0_fewestAsked_0_g (n := 0) rfl
theorem dX0_fewestAsked_1 : decode cX0_fewestAsked 1 = .ok (.iload_n 1, 1) := nq_d dX0_fewestAsked_0_g (n := 1) rfl
theorem dX0_fewestAsked_2 : decode cX0_fewestAsked 2 = .ok (.aload_n 2, 1) := nq_d dX0_fewestAsked_0_g (n := 2) rfl
theorem dX0_fewestAsked_3 : decode cX0_fewestAsked 3 = .ok (.invokevirtual 48, 3) := nq_d dX0_fewestAsked_0_g (n := 3) rfl
theorem dX0_fewestAsked_6 : decode cX0_fewestAsked 6 = .ok (.istore_n 3, 1) := nq_d dX0_fewestAsked_0_g (n := 4) rfl
theorem dX0_fewestAsked_7 : decode cX0_fewestAsked 7 = .ok (.aload_n 2, 1) := nq_d dX0_fewestAsked_0_g (n := 5) rfl
theorem dX0_fewestAsked_8 : decode cX0_fewestAsked 8 = .ok (.aload_n 0, 1) := nq_d dX0_fewestAsked_0_g (n := 6) rfl
theorem dX0_fewestAsked_9 : decode cX0_fewestAsked 9 = .ok (.iload_n 1, 1) := nq_d dX0_fewestAsked_0_g (n := 7) rfl
theorem dX0_fewestAsked_10 : decode cX0_fewestAsked 10 = .ok (.invokevirtual 52, 3) := nq_d dX0_fewestAsked_0_g (n := 8) rfl
theorem dX0_fewestAsked_13 : decode cX0_fewestAsked 13 = .ok (.invokevirtual 42, 3) := nq_d dX0_fewestAsked_0_g (n := 9) rfl
theorem dX0_fewestAsked_16 : decode cX0_fewestAsked 16 = .ok (.istore 4, 2) := nq_d dX0_fewestAsked_0_g (n := 10) rfl
theorem dX0_fewestAsked_18 : decode cX0_fewestAsked 18 = .ok (.iconst (-1), 1) := nq_d dX0_fewestAsked_0_g (n := 11) rfl
theorem dX0_fewestAsked_19 : decode cX0_fewestAsked 19 = .ok (.istore 5, 2) := nq_d dX0_fewestAsked_0_g (n := 12) rfl
theorem dX0_fewestAsked_21 : decode cX0_fewestAsked 21 = .ok (.iconst 0, 1) := nq_d dX0_fewestAsked_0_g (n := 13) rfl
theorem dX0_fewestAsked_22 : decode cX0_fewestAsked 22 = .ok (.istore 6, 2) := nq_d dX0_fewestAsked_0_g (n := 14) rfl
theorem dX0_fewestAsked_24 : decode cX0_fewestAsked 24 = .ok (.iload 6, 2) := nq_d dX0_fewestAsked_0_g (n := 15) rfl
theorem dX0_fewestAsked_26 : decode cX0_fewestAsked 26 = .ok (.sipush 255, 3) := nq_d dX0_fewestAsked_0_g (n := 16) rfl
theorem dX0_fewestAsked_29 : decode cX0_fewestAsked 29 = .ok (.if_icmp .gt 57, 3) := nq_d dX0_fewestAsked_0_g (n := 17) rfl
theorem dX0_fewestAsked_32 : decode cX0_fewestAsked 32 = .ok (.iload 5, 2) := nq_d dX0_fewestAsked_0_g (n := 18) rfl
theorem dX0_fewestAsked_34 : decode cX0_fewestAsked 34 = .ok (.iconst (-1), 1) := nq_d dX0_fewestAsked_0_g (n := 19) rfl
theorem dX0_fewestAsked_35 : decode cX0_fewestAsked 35 = .ok (.if_icmp .eq 16, 3) := nq_d dX0_fewestAsked_0_g (n := 20) rfl
theorem dX0_fewestAsked_38 : decode cX0_fewestAsked 38 = .ok (.iload 6, 2) := nq_d dX0_fewestAsked_0_g (n := 21) rfl
theorem dX0_fewestAsked_40 : decode cX0_fewestAsked 40 = .ok (.invokestatic 55, 3) := nq_d dX0_fewestAsked_0_g (n := 22) rfl
theorem dX0_fewestAsked_43 : decode cX0_fewestAsked 43 = .ok (.iload 5, 2) := nq_d dX0_fewestAsked_0_g (n := 23) rfl
theorem dX0_fewestAsked_45 : decode cX0_fewestAsked 45 = .ok (.invokestatic 55, 3) := nq_d dX0_fewestAsked_0_g (n := 24) rfl
theorem dX0_fewestAsked_48 : decode cX0_fewestAsked 48 = .ok (.if_icmp .ge 7, 3) := nq_d dX0_fewestAsked_0_g (n := 25) rfl
theorem dX0_fewestAsked_51 : decode cX0_fewestAsked 51 = .ok (.iconst 1, 1) := nq_d dX0_fewestAsked_0_g (n := 26) rfl
theorem dX0_fewestAsked_52 : decode cX0_fewestAsked 52 = .ok (.goto 4, 3) := nq_d dX0_fewestAsked_0_g (n := 27) rfl
theorem dX0_fewestAsked_55 : decode cX0_fewestAsked 55 = .ok (.iconst 0, 1) := nq_d dX0_fewestAsked_0_g (n := 28) rfl
theorem dX0_fewestAsked_56 : decode cX0_fewestAsked 56 = .ok (.istore 7, 2) := nq_d dX0_fewestAsked_0_g (n := 29) rfl
theorem dX0_fewestAsked_58 : decode cX0_fewestAsked 58 = .ok (.iload 7, 2) := nq_d dX0_fewestAsked_0_g (n := 30) rfl
theorem dX0_fewestAsked_60 : decode cX0_fewestAsked 60 = .ok (.ifCond .eq 20, 3) := nq_d dX0_fewestAsked_0_g (n := 31) rfl
theorem dX0_fewestAsked_63 : decode cX0_fewestAsked 63 = .ok (.iload_n 3, 1) := nq_d dX0_fewestAsked_0_g (n := 32) rfl
theorem dX0_fewestAsked_64 : decode cX0_fewestAsked 64 = .ok (.iload 4, 2) := nq_d dX0_fewestAsked_0_g (n := 33) rfl
theorem dX0_fewestAsked_66 : decode cX0_fewestAsked 66 = .ok (.iload 6, 2) := nq_d dX0_fewestAsked_0_g (n := 34) rfl
theorem dX0_fewestAsked_68 : decode cX0_fewestAsked 68 = .ok (.aload_n 2, 1) := nq_d dX0_fewestAsked_0_g (n := 35) rfl
theorem dX0_fewestAsked_69 : decode cX0_fewestAsked 69 = .ok (.invokestatic 60, 3) := nq_d dX0_fewestAsked_0_g (n := 36) rfl
theorem dX0_fewestAsked_72 : decode cX0_fewestAsked 72 = .ok (.iconst 1, 1) := nq_d dX0_fewestAsked_0_g (n := 37) rfl
theorem dX0_fewestAsked_73 : decode cX0_fewestAsked 73 = .ok (.if_icmp .ne 7, 3) := nq_d dX0_fewestAsked_0_g (n := 38) rfl
theorem dX0_fewestAsked_76 : decode cX0_fewestAsked 76 = .ok (.iload 6, 2) := nq_d dX0_fewestAsked_0_g (n := 39) rfl
noncomputable def dX0_fewestAsked_78_l : List (Nat × Instr × Nat) := [(78, .istore 5, 2), (80, .iinc 6 1, 3), (83, .goto (-59), 3), (86, .iload 5, 2), (88, .ireturn, 1)]
set_option maxRecDepth 100000 in
theorem dX0_fewestAsked_78_g : dX0_fewestAsked_78_l.all (fun x => decide (decode cX0_fewestAsked x.1 = .ok x.2)) = true := by decide +kernel
theorem dX0_fewestAsked_78 : decode cX0_fewestAsked 78 = .ok (.istore 5, 2) := nq_d dX0_fewestAsked_78_g (n := 0) rfl
theorem dX0_fewestAsked_80 : decode cX0_fewestAsked 80 = .ok (.iinc 6 1, 3) := nq_d dX0_fewestAsked_78_g (n := 1) rfl
theorem dX0_fewestAsked_83 : decode cX0_fewestAsked 83 = .ok (.goto (-59), 3) := nq_d dX0_fewestAsked_78_g (n := 2) rfl
theorem dX0_fewestAsked_86 : decode cX0_fewestAsked 86 = .ok (.iload 5, 2) := nq_d dX0_fewestAsked_78_g (n := 3) rfl
theorem dX0_fewestAsked_88 : decode cX0_fewestAsked 88 = .ok (.ireturn, 1) := nq_d dX0_fewestAsked_78_g (n := 4) rfl
set_option maxRecDepth 100000 in
theorem ggX0_howManyAgree_X2_marksOf : GoodIn wsX0_howManyAgree wsX2_marksOf := goodIn_sub (sub_c (nq_m (n := 6) rfl) (sub_c (nq_m (n := 7) rfl) (sub_c (nq_m (n := 8) rfl) (sub_c (nq_m (n := 9) rfl) (sub_c (nq_m (n := 10) rfl) (sub_c (nq_m (n := 5) rfl) (sub_c (nq_m (n := 11) rfl) (sub_c (nq_m (n := 12) rfl) (sub_c (nq_m (n := 13) rfl) (sub_c (nq_m (n := 14) rfl) (sub_c (nq_m (n := 15) rfl) (sub_c (nq_m (n := 16) rfl) (sub_c (nq_m (n := 17) rfl) (sub_c (nq_m (n := 18) rfl) (sub_c (nq_m (n := 19) rfl) (sub_c (nq_m (n := 20) rfl) sub_n)))))))))))))))) (by decide +kernel)
set_option maxRecDepth 100000 in
theorem gX0_howManyAgree_X2_marksOf : GoodIn wsX0_howManyAgree (wsV RX0 42 RX2 yX2_marksOf wsX2_marksOf) := goodIn_app (goodIn_sub (sub_c (nq_m (n := 2) rfl) (sub_c (nq_m (n := 3) rfl) (sub_c (nq_m (n := 4) rfl) (sub_c (nq_m (n := 5) rfl) sub_n)))) (by decide +kernel)) ggX0_howManyAgree_X2_marksOf
noncomputable def dX0_howManyAgree_0_l : List (Nat × Instr × Nat) := [(0, .iconst 0, 1), (1, .istore 4, 2), (3, .iconst 0, 1), (4, .istore 5, 2), (6, .iload 5, 2), (8, .aload_n 3, 1), (9, .getfield 41, 3), (12, .if_icmp .ge 35, 3), (15, .iload_n 0, 1), (16, .iload 5, 2), (18, .ishr, 1), (19, .iconst 1, 1), (20, .iand, 1), (21, .iconst 1, 1), (22, .if_icmp .ne 19, 3), (25, .aload_n 3, 1), (26, .iload 5, 2), (28, .invokevirtual 42, 3), (31, .iload_n 1, 1), (32, .ixor, 1), (33, .iload_n 2, 1), (34, .iand, 1), (35, .ifCond .ne 6, 3), (38, .iinc 4 1, 3), (41, .iinc 5 1, 3), (44, .goto (-38), 3), (47, .iload 4, 2), (49, .ireturn, 1)]
set_option maxRecDepth 100000 in
theorem dX0_howManyAgree_0_g : dX0_howManyAgree_0_l.all (fun x => decide (decode cX0_howManyAgree x.1 = .ok x.2)) = true := by decide +kernel
theorem dX0_howManyAgree_0 : decode cX0_howManyAgree 0 = .ok (.iconst 0, 1) := nq_d dX0_howManyAgree_0_g (n := 0) rfl
theorem dX0_howManyAgree_1 : decode cX0_howManyAgree 1 = .ok (.istore 4, 2) := nq_d dX0_howManyAgree_0_g (n := 1) rfl
theorem dX0_howManyAgree_3 : decode cX0_howManyAgree 3 = .ok (.iconst 0, 1) := nq_d dX0_howManyAgree_0_g (n := 2) rfl
theorem dX0_howManyAgree_4 : decode cX0_howManyAgree 4 = .ok (.istore 5, 2) := nq_d dX0_howManyAgree_0_g (n := 3) rfl
theorem dX0_howManyAgree_6 : decode cX0_howManyAgree 6 = .ok (.iload 5, 2) := nq_d dX0_howManyAgree_0_g (n := 4) rfl
theorem dX0_howManyAgree_8 : decode cX0_howManyAgree 8 = .ok (.aload_n 3, 1) := nq_d dX0_howManyAgree_0_g (n := 5) rfl
theorem dX0_howManyAgree_9 : decode cX0_howManyAgree 9 = .ok (.getfield 41, 3) := nq_d dX0_howManyAgree_0_g (n := 6) rfl
theorem dX0_howManyAgree_12 : decode cX0_howManyAgree 12 = .ok (.if_icmp .ge 35, 3) := nq_d dX0_howManyAgree_0_g (n := 7) rfl
theorem dX0_howManyAgree_15 : decode cX0_howManyAgree 15 = .ok (.iload_n 0, 1) := nq_d dX0_howManyAgree_0_g (n := 8) rfl
theorem dX0_howManyAgree_16 : decode cX0_howManyAgree 16 = .ok (.iload 5, 2) := nq_d dX0_howManyAgree_0_g (n := 9) rfl
theorem dX0_howManyAgree_18 : decode cX0_howManyAgree 18 = .ok (.ishr, 1) := nq_d dX0_howManyAgree_0_g (n := 10) rfl
theorem dX0_howManyAgree_19 : decode cX0_howManyAgree 19 = .ok (.iconst 1, 1) := nq_d dX0_howManyAgree_0_g (n := 11) rfl
theorem dX0_howManyAgree_20 : decode cX0_howManyAgree 20 = .ok (.iand, 1) := nq_d dX0_howManyAgree_0_g (n := 12) rfl
theorem dX0_howManyAgree_21 : decode cX0_howManyAgree 21 = .ok (.iconst 1, 1) := nq_d dX0_howManyAgree_0_g (n := 13) rfl
theorem dX0_howManyAgree_22 : decode cX0_howManyAgree 22 = .ok (.if_icmp .ne 19, 3) := nq_d dX0_howManyAgree_0_g (n := 14) rfl
theorem dX0_howManyAgree_25 : decode cX0_howManyAgree 25 = .ok (.aload_n 3, 1) := nq_d dX0_howManyAgree_0_g (n := 15) rfl
theorem dX0_howManyAgree_26 : decode cX0_howManyAgree 26 = .ok (.iload 5, 2) := nq_d dX0_howManyAgree_0_g (n := 16) rfl
theorem dX0_howManyAgree_28 : decode cX0_howManyAgree 28 = .ok (.invokevirtual 42, 3) := nq_d dX0_howManyAgree_0_g (n := 17) rfl
theorem dX0_howManyAgree_31 : decode cX0_howManyAgree 31 = .ok (.iload_n 1, 1) := nq_d dX0_howManyAgree_0_g (n := 18) rfl
theorem dX0_howManyAgree_32 : decode cX0_howManyAgree 32 = .ok (.ixor, 1) := nq_d dX0_howManyAgree_0_g (n := 19) rfl
theorem dX0_howManyAgree_33 : decode cX0_howManyAgree 33 = .ok (.iload_n 2, 1) := nq_d dX0_howManyAgree_0_g (n := 20) rfl
theorem dX0_howManyAgree_34 : decode cX0_howManyAgree 34 = .ok (.iand, 1) := nq_d dX0_howManyAgree_0_g (n := 21) rfl
theorem dX0_howManyAgree_35 : decode cX0_howManyAgree 35 = .ok (.ifCond .ne 6, 3) := nq_d dX0_howManyAgree_0_g (n := 22) rfl
theorem dX0_howManyAgree_38 : decode cX0_howManyAgree 38 = .ok (.iinc 4 1, 3) := nq_d dX0_howManyAgree_0_g (n := 23) rfl
theorem dX0_howManyAgree_41 : decode cX0_howManyAgree 41 = .ok (.iinc 5 1, 3) := nq_d dX0_howManyAgree_0_g (n := 24) rfl
theorem dX0_howManyAgree_44 : decode cX0_howManyAgree 44 = .ok (.goto (-38), 3) := nq_d dX0_howManyAgree_0_g (n := 25) rfl
theorem dX0_howManyAgree_47 : decode cX0_howManyAgree 47 = .ok (.iload 4, 2) := nq_d dX0_howManyAgree_0_g (n := 26) rfl
theorem dX0_howManyAgree_49 : decode cX0_howManyAgree 49 = .ok (.ireturn, 1) := nq_d dX0_howManyAgree_0_g (n := 27) rfl
noncomputable def dX1_init_0_l : List (Nat × Instr × Nat) := [(0, .aload_n 0, 1), (1, .invokespecial 3, 3), (4, .aload_n 0, 1), (5, .iconst 0, 1), (6, .putfield 9, 3), (9, .aload_n 0, 1), (10, .sipush 420, 3), (13, .newarray .int, 2), (15, .putfield 15, 3), (18, .return_, 1)]
set_option maxRecDepth 100000 in
theorem dX1_init_0_g : dX1_init_0_l.all (fun x => decide (decode cX1_init x.1 = .ok x.2)) = true := by decide +kernel
theorem dX1_init_0 : decode cX1_init 0 = .ok (.aload_n 0, 1) := nq_d dX1_init_0_g (n := 0) rfl
theorem dX1_init_1 : decode cX1_init 1 = .ok (.invokespecial 3, 3) := nq_d dX1_init_0_g (n := 1) rfl
theorem dX1_init_4 : decode cX1_init 4 = .ok (.aload_n 0, 1) := nq_d dX1_init_0_g (n := 2) rfl
theorem dX1_init_5 : decode cX1_init 5 = .ok (.iconst 0, 1) := nq_d dX1_init_0_g (n := 3) rfl
theorem dX1_init_6 : decode cX1_init 6 = .ok (.putfield 9, 3) := nq_d dX1_init_0_g (n := 4) rfl
theorem dX1_init_9 : decode cX1_init 9 = .ok (.aload_n 0, 1) := nq_d dX1_init_0_g (n := 5) rfl
theorem dX1_init_10 : decode cX1_init 10 = .ok (.sipush 420, 3) := nq_d dX1_init_0_g (n := 6) rfl
theorem dX1_init_13 : decode cX1_init 13 = .ok (.newarray .int, 2) := nq_d dX1_init_0_g (n := 7) rfl
theorem dX1_init_15 : decode cX1_init 15 = .ok (.putfield 15, 3) := nq_d dX1_init_0_g (n := 8) rfl
theorem dX1_init_18 : decode cX1_init 18 = .ok (.return_, 1) := nq_d dX1_init_0_g (n := 9) rfl
noncomputable def dX1_copyFrom_0_l : List (Nat × Instr × Nat) := [(0, .aload_n 0, 1), (1, .aload_n 1, 1), (2, .getfield 9, 3), (5, .putfield 9, 3), (8, .aload_n 1, 1), (9, .getfield 15, 3), (12, .iconst 0, 1), (13, .aload_n 0, 1), (14, .getfield 15, 3), (17, .iconst 0, 1), (18, .aload_n 0, 1), (19, .getfield 15, 3), (22, .arraylength, 1), (23, .invokestatic 19, 3), (26, .return_, 1)]
set_option maxRecDepth 100000 in
theorem dX1_copyFrom_0_g : dX1_copyFrom_0_l.all (fun x => decide (decode cX1_copyFrom x.1 = .ok x.2)) = true := by decide +kernel
theorem dX1_copyFrom_0 : decode cX1_copyFrom 0 = .ok (.aload_n 0, 1) := nq_d dX1_copyFrom_0_g (n := 0) rfl
theorem dX1_copyFrom_1 : decode cX1_copyFrom 1 = .ok (.aload_n 1, 1) := nq_d dX1_copyFrom_0_g (n := 1) rfl
theorem dX1_copyFrom_2 : decode cX1_copyFrom 2 = .ok (.getfield 9, 3) := nq_d dX1_copyFrom_0_g (n := 2) rfl
theorem dX1_copyFrom_5 : decode cX1_copyFrom 5 = .ok (.putfield 9, 3) := nq_d dX1_copyFrom_0_g (n := 3) rfl
theorem dX1_copyFrom_8 : decode cX1_copyFrom 8 = .ok (.aload_n 1, 1) := nq_d dX1_copyFrom_0_g (n := 4) rfl
theorem dX1_copyFrom_9 : decode cX1_copyFrom 9 = .ok (.getfield 15, 3) := nq_d dX1_copyFrom_0_g (n := 5) rfl
theorem dX1_copyFrom_12 : decode cX1_copyFrom 12 = .ok (.iconst 0, 1) := nq_d dX1_copyFrom_0_g (n := 6) rfl
theorem dX1_copyFrom_13 : decode cX1_copyFrom 13 = .ok (.aload_n 0, 1) := nq_d dX1_copyFrom_0_g (n := 7) rfl
theorem dX1_copyFrom_14 : decode cX1_copyFrom 14 = .ok (.getfield 15, 3) := nq_d dX1_copyFrom_0_g (n := 8) rfl
theorem dX1_copyFrom_17 : decode cX1_copyFrom 17 = .ok (.iconst 0, 1) := nq_d dX1_copyFrom_0_g (n := 9) rfl
theorem dX1_copyFrom_18 : decode cX1_copyFrom 18 = .ok (.aload_n 0, 1) := nq_d dX1_copyFrom_0_g (n := 10) rfl
theorem dX1_copyFrom_19 : decode cX1_copyFrom 19 = .ok (.getfield 15, 3) := nq_d dX1_copyFrom_0_g (n := 11) rfl
theorem dX1_copyFrom_22 : decode cX1_copyFrom 22 = .ok (.arraylength, 1) := nq_d dX1_copyFrom_0_g (n := 12) rfl
theorem dX1_copyFrom_23 : decode cX1_copyFrom 23 = .ok (.invokestatic 19, 3) := nq_d dX1_copyFrom_0_g (n := 13) rfl
theorem dX1_copyFrom_26 : decode cX1_copyFrom 26 = .ok (.return_, 1) := nq_d dX1_copyFrom_0_g (n := 14) rfl
noncomputable def dX1_knows_0_l : List (Nat × Instr × Nat) := [(0, .iload_n 1, 1), (1, .ifCond .lt 21, 3), (4, .iload_n 1, 1), (5, .aload_n 0, 1), (6, .getfield 9, 3), (9, .if_icmp .ge 13, 3), (12, .iload_n 1, 1), (13, .bipush 60, 2), (15, .if_icmp .ge 7, 3), (18, .iconst 1, 1), (19, .goto 4, 3), (22, .iconst 0, 1), (23, .ireturn, 1)]
set_option maxRecDepth 100000 in
theorem dX1_knows_0_g : dX1_knows_0_l.all (fun x => decide (decode cX1_knows x.1 = .ok x.2)) = true := by decide +kernel
theorem dX1_knows_0 : decode cX1_knows 0 = .ok (.iload_n 1, 1) := nq_d dX1_knows_0_g (n := 0) rfl
theorem dX1_knows_1 : decode cX1_knows 1 = .ok (.ifCond .lt 21, 3) := nq_d dX1_knows_0_g (n := 1) rfl
theorem dX1_knows_4 : decode cX1_knows 4 = .ok (.iload_n 1, 1) := nq_d dX1_knows_0_g (n := 2) rfl
theorem dX1_knows_5 : decode cX1_knows 5 = .ok (.aload_n 0, 1) := nq_d dX1_knows_0_g (n := 3) rfl
theorem dX1_knows_6 : decode cX1_knows 6 = .ok (.getfield 9, 3) := nq_d dX1_knows_0_g (n := 4) rfl
theorem dX1_knows_9 : decode cX1_knows 9 = .ok (.if_icmp .ge 13, 3) := nq_d dX1_knows_0_g (n := 5) rfl
theorem dX1_knows_12 : decode cX1_knows 12 = .ok (.iload_n 1, 1) := nq_d dX1_knows_0_g (n := 6) rfl
theorem dX1_knows_13 : decode cX1_knows 13 = .ok (.bipush 60, 2) := nq_d dX1_knows_0_g (n := 7) rfl
theorem dX1_knows_15 : decode cX1_knows 15 = .ok (.if_icmp .ge 7, 3) := nq_d dX1_knows_0_g (n := 8) rfl
theorem dX1_knows_18 : decode cX1_knows 18 = .ok (.iconst 1, 1) := nq_d dX1_knows_0_g (n := 9) rfl
theorem dX1_knows_19 : decode cX1_knows 19 = .ok (.goto 4, 3) := nq_d dX1_knows_0_g (n := 10) rfl
theorem dX1_knows_22 : decode cX1_knows 22 = .ok (.iconst 0, 1) := nq_d dX1_knows_0_g (n := 11) rfl
theorem dX1_knows_23 : decode cX1_knows 23 = .ok (.ireturn, 1) := nq_d dX1_knows_0_g (n := 12) rfl
noncomputable def dX1_isFull_0_l : List (Nat × Instr × Nat) := [(0, .aload_n 0, 1), (1, .getfield 9, 3), (4, .bipush 60, 2), (6, .if_icmp .lt 7, 3), (9, .iconst 1, 1), (10, .goto 4, 3), (13, .iconst 0, 1), (14, .ireturn, 1)]
set_option maxRecDepth 100000 in
theorem dX1_isFull_0_g : dX1_isFull_0_l.all (fun x => decide (decode cX1_isFull x.1 = .ok x.2)) = true := by decide +kernel
theorem dX1_isFull_0 : decode cX1_isFull 0 = .ok (.aload_n 0, 1) := nq_d dX1_isFull_0_g (n := 0) rfl
theorem dX1_isFull_1 : decode cX1_isFull 1 = .ok (.getfield 9, 3) := nq_d dX1_isFull_0_g (n := 1) rfl
theorem dX1_isFull_4 : decode cX1_isFull 4 = .ok (.bipush 60, 2) := nq_d dX1_isFull_0_g (n := 2) rfl
theorem dX1_isFull_6 : decode cX1_isFull 6 = .ok (.if_icmp .lt 7, 3) := nq_d dX1_isFull_0_g (n := 3) rfl
theorem dX1_isFull_9 : decode cX1_isFull 9 = .ok (.iconst 1, 1) := nq_d dX1_isFull_0_g (n := 4) rfl
theorem dX1_isFull_10 : decode cX1_isFull 10 = .ok (.goto 4, 3) := nq_d dX1_isFull_0_g (n := 5) rfl
theorem dX1_isFull_13 : decode cX1_isFull 13 = .ok (.iconst 0, 1) := nq_d dX1_isFull_0_g (n := 6) rfl
theorem dX1_isFull_14 : decode cX1_isFull 14 = .ok (.ireturn, 1) := nq_d dX1_isFull_0_g (n := 7) rfl
set_option maxRecDepth 100000 in
theorem ggX1_add_X1_isFull : GoodIn wsX1_add wsX1_isFull := goodIn_sub (sub_c (nq_m (n := 7) rfl) (sub_c (nq_m (n := 1) rfl) (sub_c (nq_m (n := 8) rfl) (sub_c (nq_m (n := 9) rfl) sub_n)))) (by decide +kernel)
set_option maxRecDepth 100000 in
theorem gX1_add_X1_isFull : GoodIn wsX1_add (wsV RX1 25 RX1 yX1_isFull wsX1_isFull) := goodIn_app (goodIn_sub (sub_c (nq_m (n := 3) rfl) (sub_c (nq_m (n := 4) rfl) (sub_c (nq_m (n := 5) rfl) (sub_c (nq_m (n := 6) rfl) sub_n)))) (by decide +kernel)) ggX1_add_X1_isFull
noncomputable def dX1_add_0_l : List (Nat × Instr × Nat) := [(0, .aload_n 0, 1), (1, .getfield 9, 3), (4, .ifCond .lt 10, 3), (7, .aload_n 0, 1), (8, .invokevirtual 25, 3), (11, .ifCond .eq 7, 3), (14, .sipush (-1004), 3), (17, .ireturn, 1), (18, .aload_n 0, 1), (19, .getfield 9, 3), (22, .istore 7, 2), (24, .iload 7, 2), (26, .bipush 7, 2), (28, .imul, 1), (29, .istore 8, 2), (31, .aload_n 0, 1), (32, .getfield 15, 3), (35, .iload 8, 2), (37, .iload_n 1, 1), (38, .iastore, 1), (39, .aload_n 0, 1), (40, .getfield 15, 3), (43, .iload 8, 2), (45, .iconst 1, 1), (46, .iadd, 1), (47, .iload_n 2, 1), (48, .iastore, 1), (49, .aload_n 0, 1), (50, .getfield 15, 3), (53, .iload 8, 2), (55, .iconst 2, 1), (56, .iadd, 1), (57, .iload_n 3, 1), (58, .iastore, 1), (59, .aload_n 0, 1), (60, .getfield 15, 3), (63, .iload 8, 2), (65, .iconst 3, 1), (66, .iadd, 1), (67, .iload 4, 2)]
set_option maxRecDepth 100000 in
theorem dX1_add_0_g : dX1_add_0_l.all (fun x => decide (decode cX1_add x.1 = .ok x.2)) = true := by decide +kernel
theorem dX1_add_0 : decode cX1_add 0 = .ok (.aload_n 0, 1) := nq_d dX1_add_0_g (n := 0) rfl
theorem dX1_add_1 : decode cX1_add 1 = .ok (.getfield 9, 3) := nq_d dX1_add_0_g (n := 1) rfl
theorem dX1_add_4 : decode cX1_add 4 = .ok (.ifCond .lt 10, 3) := nq_d dX1_add_0_g (n := 2) rfl
theorem dX1_add_7 : decode cX1_add 7 = .ok (.aload_n 0, 1) := nq_d dX1_add_0_g (n := 3) rfl
theorem dX1_add_8 : decode cX1_add 8 = .ok (.invokevirtual 25, 3) := nq_d dX1_add_0_g (n := 4) rfl
theorem dX1_add_11 : decode cX1_add 11 = .ok (.ifCond .eq 7, 3) := nq_d dX1_add_0_g (n := 5) rfl
theorem dX1_add_14 : decode cX1_add 14 = .ok (.sipush (-1004), 3) := nq_d dX1_add_0_g (n := 6) rfl
theorem dX1_add_17 : decode cX1_add 17 = .ok (.ireturn, 1) := nq_d dX1_add_0_g (n := 7) rfl
theorem dX1_add_18 : decode cX1_add 18 = .ok (.aload_n 0, 1) := nq_d dX1_add_0_g (n := 8) rfl
theorem dX1_add_19 : decode cX1_add 19 = .ok (.getfield 9, 3) := nq_d dX1_add_0_g (n := 9) rfl
theorem dX1_add_22 : decode cX1_add 22 = .ok (.istore 7, 2) := nq_d dX1_add_0_g (n := 10) rfl
theorem dX1_add_24 : decode cX1_add 24 = .ok (.iload 7, 2) := nq_d dX1_add_0_g (n := 11) rfl
theorem dX1_add_26 : decode cX1_add 26 = .ok (.bipush 7, 2) := nq_d dX1_add_0_g (n := 12) rfl
theorem dX1_add_28 : decode cX1_add 28 = .ok (.imul, 1) := nq_d dX1_add_0_g (n := 13) rfl
theorem dX1_add_29 : decode cX1_add 29 = .ok (.istore 8, 2) := nq_d dX1_add_0_g (n := 14) rfl
theorem dX1_add_31 : decode cX1_add 31 = .ok (.aload_n 0, 1) := nq_d dX1_add_0_g (n := 15) rfl
theorem dX1_add_32 : decode cX1_add 32 = .ok (.getfield 15, 3) := nq_d dX1_add_0_g (n := 16) rfl
theorem dX1_add_35 : decode cX1_add 35 = .ok (.iload 8, 2) := nq_d dX1_add_0_g (n := 17) rfl
theorem dX1_add_37 : decode cX1_add 37 = .ok (.iload_n 1, 1) := nq_d dX1_add_0_g (n := 18) rfl
theorem dX1_add_38 : decode cX1_add 38 = .ok (.iastore, 1) := nq_d dX1_add_0_g (n := 19) rfl
theorem dX1_add_39 : decode cX1_add 39 = .ok (.aload_n 0, 1) := nq_d dX1_add_0_g (n := 20) rfl
theorem dX1_add_40 : decode cX1_add 40 = .ok (.getfield 15, 3) := nq_d dX1_add_0_g (n := 21) rfl
theorem dX1_add_43 : decode cX1_add 43 = .ok (.iload 8, 2) := nq_d dX1_add_0_g (n := 22) rfl
theorem dX1_add_45 : decode cX1_add 45 = .ok (.iconst 1, 1) := nq_d dX1_add_0_g (n := 23) rfl
theorem dX1_add_46 : decode cX1_add 46 = .ok (.iadd, 1) := nq_d dX1_add_0_g (n := 24) rfl
theorem dX1_add_47 : decode cX1_add 47 = .ok (.iload_n 2, 1) := nq_d dX1_add_0_g (n := 25) rfl
theorem dX1_add_48 : decode cX1_add 48 = .ok (.iastore, 1) := nq_d dX1_add_0_g (n := 26) rfl
theorem dX1_add_49 : decode cX1_add 49 = .ok (.aload_n 0, 1) := nq_d dX1_add_0_g (n := 27) rfl
theorem dX1_add_50 : decode cX1_add 50 = .ok (.getfield 15, 3) := nq_d dX1_add_0_g (n := 28) rfl
theorem dX1_add_53 : decode cX1_add 53 = .ok (.iload 8, 2) := nq_d dX1_add_0_g (n := 29) rfl
theorem dX1_add_55 : decode cX1_add 55 = .ok (.iconst 2, 1) := nq_d dX1_add_0_g (n := 30) rfl
theorem dX1_add_56 : decode cX1_add 56 = .ok (.iadd, 1) := nq_d dX1_add_0_g (n := 31) rfl
theorem dX1_add_57 : decode cX1_add 57 = .ok (.iload_n 3, 1) := nq_d dX1_add_0_g (n := 32) rfl
theorem dX1_add_58 : decode cX1_add 58 = .ok (.iastore, 1) := nq_d dX1_add_0_g (n := 33) rfl
theorem dX1_add_59 : decode cX1_add 59 = .ok (.aload_n 0, 1) := nq_d dX1_add_0_g (n := 34) rfl
theorem dX1_add_60 : decode cX1_add 60 = .ok (.getfield 15, 3) := nq_d dX1_add_0_g (n := 35) rfl
theorem dX1_add_63 : decode cX1_add 63 = .ok (.iload 8, 2) := nq_d dX1_add_0_g (n := 36) rfl
theorem dX1_add_65 : decode cX1_add 65 = .ok (.iconst 3, 1) := nq_d dX1_add_0_g (n := 37) rfl
theorem dX1_add_66 : decode cX1_add 66 = .ok (.iadd, 1) := nq_d dX1_add_0_g (n := 38) rfl
theorem dX1_add_67 : decode cX1_add 67 = .ok (.iload 4, 2) := nq_d dX1_add_0_g (n := 39) rfl
noncomputable def dX1_add_69_l : List (Nat × Instr × Nat) := [(69, .iastore, 1), (70, .aload_n 0, 1), (71, .getfield 15, 3), (74, .iload 8, 2), (76, .iconst 4, 1), (77, .iadd, 1), (78, .iload 5, 2), (80, .iastore, 1), (81, .aload_n 0, 1), (82, .getfield 15, 3), (85, .iload 8, 2), (87, .iconst 5, 1), (88, .iadd, 1), (89, .iload 6, 2), (91, .iastore, 1), (92, .aload_n 0, 1), (93, .getfield 15, 3), (96, .iload 8, 2), (98, .bipush 6, 2), (100, .iadd, 1), (101, .iload_n 1, 1), (102, .iconst 2, 1), (103, .if_icmp .eq 14, 3), (106, .iload 4, 2), (108, .iload 5, 2), (110, .if_icmp .eq 7, 3), (113, .iconst 1, 1), (114, .goto 4, 3), (117, .iconst 0, 1), (118, .iastore, 1), (119, .aload_n 0, 1), (120, .dup, 1), (121, .getfield 9, 3), (124, .iconst 1, 1), (125, .iadd, 1), (126, .putfield 9, 3), (129, .iload 7, 2), (131, .ireturn, 1)]
set_option maxRecDepth 100000 in
theorem dX1_add_69_g : dX1_add_69_l.all (fun x => decide (decode cX1_add x.1 = .ok x.2)) = true := by decide +kernel
theorem dX1_add_69 : decode cX1_add 69 = .ok (.iastore, 1) := nq_d dX1_add_69_g (n := 0) rfl
theorem dX1_add_70 : decode cX1_add 70 = .ok (.aload_n 0, 1) := nq_d dX1_add_69_g (n := 1) rfl
theorem dX1_add_71 : decode cX1_add 71 = .ok (.getfield 15, 3) := nq_d dX1_add_69_g (n := 2) rfl
theorem dX1_add_74 : decode cX1_add 74 = .ok (.iload 8, 2) := nq_d dX1_add_69_g (n := 3) rfl
theorem dX1_add_76 : decode cX1_add 76 = .ok (.iconst 4, 1) := nq_d dX1_add_69_g (n := 4) rfl
theorem dX1_add_77 : decode cX1_add 77 = .ok (.iadd, 1) := nq_d dX1_add_69_g (n := 5) rfl
theorem dX1_add_78 : decode cX1_add 78 = .ok (.iload 5, 2) := nq_d dX1_add_69_g (n := 6) rfl
theorem dX1_add_80 : decode cX1_add 80 = .ok (.iastore, 1) := nq_d dX1_add_69_g (n := 7) rfl
theorem dX1_add_81 : decode cX1_add 81 = .ok (.aload_n 0, 1) := nq_d dX1_add_69_g (n := 8) rfl
theorem dX1_add_82 : decode cX1_add 82 = .ok (.getfield 15, 3) := nq_d dX1_add_69_g (n := 9) rfl
theorem dX1_add_85 : decode cX1_add 85 = .ok (.iload 8, 2) := nq_d dX1_add_69_g (n := 10) rfl
theorem dX1_add_87 : decode cX1_add 87 = .ok (.iconst 5, 1) := nq_d dX1_add_69_g (n := 11) rfl
theorem dX1_add_88 : decode cX1_add 88 = .ok (.iadd, 1) := nq_d dX1_add_69_g (n := 12) rfl
theorem dX1_add_89 : decode cX1_add 89 = .ok (.iload 6, 2) := nq_d dX1_add_69_g (n := 13) rfl
theorem dX1_add_91 : decode cX1_add 91 = .ok (.iastore, 1) := nq_d dX1_add_69_g (n := 14) rfl
theorem dX1_add_92 : decode cX1_add 92 = .ok (.aload_n 0, 1) := nq_d dX1_add_69_g (n := 15) rfl
theorem dX1_add_93 : decode cX1_add 93 = .ok (.getfield 15, 3) := nq_d dX1_add_69_g (n := 16) rfl
theorem dX1_add_96 : decode cX1_add 96 = .ok (.iload 8, 2) := nq_d dX1_add_69_g (n := 17) rfl
theorem dX1_add_98 : decode cX1_add 98 = .ok (.bipush 6, 2) := nq_d dX1_add_69_g (n := 18) rfl
theorem dX1_add_100 : decode cX1_add 100 = .ok (.iadd, 1) := nq_d dX1_add_69_g (n := 19) rfl
theorem dX1_add_101 : decode cX1_add 101 = .ok (.iload_n 1, 1) := nq_d dX1_add_69_g (n := 20) rfl
theorem dX1_add_102 : decode cX1_add 102 = .ok (.iconst 2, 1) := nq_d dX1_add_69_g (n := 21) rfl
theorem dX1_add_103 : decode cX1_add 103 = .ok (.if_icmp .eq 14, 3) := nq_d dX1_add_69_g (n := 22) rfl
theorem dX1_add_106 : decode cX1_add 106 = .ok (.iload 4, 2) := nq_d dX1_add_69_g (n := 23) rfl
theorem dX1_add_108 : decode cX1_add 108 = .ok (.iload 5, 2) := nq_d dX1_add_69_g (n := 24) rfl
theorem dX1_add_110 : decode cX1_add 110 = .ok (.if_icmp .eq 7, 3) := nq_d dX1_add_69_g (n := 25) rfl
theorem dX1_add_113 : decode cX1_add 113 = .ok (.iconst 1, 1) := nq_d dX1_add_69_g (n := 26) rfl
theorem dX1_add_114 : decode cX1_add 114 = .ok (.goto 4, 3) := nq_d dX1_add_69_g (n := 27) rfl
theorem dX1_add_117 : decode cX1_add 117 = .ok (.iconst 0, 1) := nq_d dX1_add_69_g (n := 28) rfl
theorem dX1_add_118 : decode cX1_add 118 = .ok (.iastore, 1) := nq_d dX1_add_69_g (n := 29) rfl
theorem dX1_add_119 : decode cX1_add 119 = .ok (.aload_n 0, 1) := nq_d dX1_add_69_g (n := 30) rfl
theorem dX1_add_120 : decode cX1_add 120 = .ok (.dup, 1) := nq_d dX1_add_69_g (n := 31) rfl
theorem dX1_add_121 : decode cX1_add 121 = .ok (.getfield 9, 3) := nq_d dX1_add_69_g (n := 32) rfl
theorem dX1_add_124 : decode cX1_add 124 = .ok (.iconst 1, 1) := nq_d dX1_add_69_g (n := 33) rfl
theorem dX1_add_125 : decode cX1_add 125 = .ok (.iadd, 1) := nq_d dX1_add_69_g (n := 34) rfl
theorem dX1_add_126 : decode cX1_add 126 = .ok (.putfield 9, 3) := nq_d dX1_add_69_g (n := 35) rfl
theorem dX1_add_129 : decode cX1_add 129 = .ok (.iload 7, 2) := nq_d dX1_add_69_g (n := 36) rfl
theorem dX1_add_131 : decode cX1_add 131 = .ok (.ireturn, 1) := nq_d dX1_add_69_g (n := 37) rfl
set_option maxRecDepth 100000 in
theorem ggX1_factOf_X1_knows : GoodIn wsX1_factOf wsX1_knows := goodIn_sub (sub_c (nq_m (n := 6) rfl) (sub_c (nq_m (n := 7) rfl) (sub_c (nq_m (n := 11) rfl) (sub_c (nq_m (n := 12) rfl) sub_n)))) (by decide +kernel)
set_option maxRecDepth 100000 in
theorem gX1_factOf_X1_knows : GoodIn wsX1_factOf (wsV RX1 29 RX1 yX1_knows wsX1_knows) := goodIn_app (goodIn_sub (sub_c (nq_m (n := 2) rfl) (sub_c (nq_m (n := 3) rfl) (sub_c (nq_m (n := 4) rfl) (sub_c (nq_m (n := 5) rfl) sub_n)))) (by decide +kernel)) ggX1_factOf_X1_knows
set_option maxRecDepth 100000 in
theorem ggX1_factOf_X10_within : GoodIn wsX1_factOf wsX10_within := goodIn_sub (sub_c (nq_m (n := 10) rfl) sub_n) (by decide +kernel)
set_option maxRecDepth 100000 in
theorem gX1_factOf_X10_within_n33 : GoodIn wsX1_factOf (wsX10_within) := ggX1_factOf_X10_within
noncomputable def dX1_factOf_0_l : List (Nat × Instr × Nat) := [(0, .aload_n 0, 1), (1, .iload_n 1, 1), (2, .invokevirtual 29, 3), (5, .ifCond .eq 13, 3), (8, .iload_n 2, 1), (9, .iconst 0, 1), (10, .bipush 6, 2), (12, .invokestatic 33, 3), (15, .ifCond .ne 5, 3), (18, .iconst (-1), 1), (19, .ireturn, 1), (20, .aload_n 0, 1), (21, .getfield 15, 3), (24, .iload_n 1, 1), (25, .bipush 7, 2), (27, .imul, 1), (28, .iload_n 2, 1), (29, .iadd, 1), (30, .iaload, 1), (31, .ireturn, 1)]
set_option maxRecDepth 100000 in
theorem dX1_factOf_0_g : dX1_factOf_0_l.all (fun x => decide (decode cX1_factOf x.1 = .ok x.2)) = true := by decide +kernel
theorem dX1_factOf_0 : decode cX1_factOf 0 = .ok (.aload_n 0, 1) := nq_d dX1_factOf_0_g (n := 0) rfl
theorem dX1_factOf_1 : decode cX1_factOf 1 = .ok (.iload_n 1, 1) := nq_d dX1_factOf_0_g (n := 1) rfl
theorem dX1_factOf_2 : decode cX1_factOf 2 = .ok (.invokevirtual 29, 3) := nq_d dX1_factOf_0_g (n := 2) rfl
theorem dX1_factOf_5 : decode cX1_factOf 5 = .ok (.ifCond .eq 13, 3) := nq_d dX1_factOf_0_g (n := 3) rfl
theorem dX1_factOf_8 : decode cX1_factOf 8 = .ok (.iload_n 2, 1) := nq_d dX1_factOf_0_g (n := 4) rfl
theorem dX1_factOf_9 : decode cX1_factOf 9 = .ok (.iconst 0, 1) := nq_d dX1_factOf_0_g (n := 5) rfl
theorem dX1_factOf_10 : decode cX1_factOf 10 = .ok (.bipush 6, 2) := nq_d dX1_factOf_0_g (n := 6) rfl
theorem dX1_factOf_12 : decode cX1_factOf 12 = .ok (.invokestatic 33, 3) := nq_d dX1_factOf_0_g (n := 7) rfl
theorem dX1_factOf_15 : decode cX1_factOf 15 = .ok (.ifCond .ne 5, 3) := nq_d dX1_factOf_0_g (n := 8) rfl
theorem dX1_factOf_18 : decode cX1_factOf 18 = .ok (.iconst (-1), 1) := nq_d dX1_factOf_0_g (n := 9) rfl
theorem dX1_factOf_19 : decode cX1_factOf 19 = .ok (.ireturn, 1) := nq_d dX1_factOf_0_g (n := 10) rfl
theorem dX1_factOf_20 : decode cX1_factOf 20 = .ok (.aload_n 0, 1) := nq_d dX1_factOf_0_g (n := 11) rfl
theorem dX1_factOf_21 : decode cX1_factOf 21 = .ok (.getfield 15, 3) := nq_d dX1_factOf_0_g (n := 12) rfl
theorem dX1_factOf_24 : decode cX1_factOf 24 = .ok (.iload_n 1, 1) := nq_d dX1_factOf_0_g (n := 13) rfl
theorem dX1_factOf_25 : decode cX1_factOf 25 = .ok (.bipush 7, 2) := nq_d dX1_factOf_0_g (n := 14) rfl
theorem dX1_factOf_27 : decode cX1_factOf 27 = .ok (.imul, 1) := nq_d dX1_factOf_0_g (n := 15) rfl
theorem dX1_factOf_28 : decode cX1_factOf 28 = .ok (.iload_n 2, 1) := nq_d dX1_factOf_0_g (n := 16) rfl
theorem dX1_factOf_29 : decode cX1_factOf 29 = .ok (.iadd, 1) := nq_d dX1_factOf_0_g (n := 17) rfl
theorem dX1_factOf_30 : decode cX1_factOf 30 = .ok (.iaload, 1) := nq_d dX1_factOf_0_g (n := 18) rfl
theorem dX1_factOf_31 : decode cX1_factOf 31 = .ok (.ireturn, 1) := nq_d dX1_factOf_0_g (n := 19) rfl
set_option maxRecDepth 100000 in
theorem ggX1_find_X1_factOf : GoodIn wsX1_find wsX1_factOf := goodIn_sub (sub_c (nq_m (n := 6) rfl) (sub_c (nq_m (n := 7) rfl) (sub_c (nq_m (n := 8) rfl) (sub_c (nq_m (n := 9) rfl) (sub_c (nq_m (n := 10) rfl) (sub_c (nq_m (n := 5) rfl) (sub_c (nq_m (n := 11) rfl) (sub_c (nq_m (n := 1) rfl) (sub_c (nq_m (n := 12) rfl) (sub_c (nq_m (n := 13) rfl) (sub_c (nq_m (n := 14) rfl) (sub_c (nq_m (n := 15) rfl) (sub_c (nq_m (n := 16) rfl) sub_n))))))))))))) (by decide +kernel)
set_option maxRecDepth 100000 in
theorem gX1_find_X1_factOf : GoodIn wsX1_find (wsV RX1 37 RX1 yX1_factOf wsX1_factOf) := goodIn_app (goodIn_sub (sub_c (nq_m (n := 2) rfl) (sub_c (nq_m (n := 3) rfl) (sub_c (nq_m (n := 4) rfl) (sub_c (nq_m (n := 5) rfl) sub_n)))) (by decide +kernel)) ggX1_find_X1_factOf
noncomputable def dX1_find_0_l : List (Nat × Instr × Nat) := [(0, .iconst 0, 1), (1, .istore_n 3, 1), (2, .iload_n 3, 1), (3, .aload_n 0, 1), (4, .getfield 9, 3), (7, .if_icmp .ge 31, 3), (10, .aload_n 0, 1), (11, .iload_n 3, 1), (12, .iconst 0, 1), (13, .invokevirtual 37, 3), (16, .iload_n 1, 1), (17, .if_icmp .ne 15, 3), (20, .aload_n 0, 1), (21, .iload_n 3, 1), (22, .iconst 5, 1), (23, .invokevirtual 37, 3), (26, .iload_n 2, 1), (27, .if_icmp .ne 5, 3), (30, .iload_n 3, 1), (31, .ireturn, 1), (32, .iinc 3 1, 3), (35, .goto (-33), 3), (38, .iconst (-1), 1), (39, .ireturn, 1)]
set_option maxRecDepth 100000 in
theorem dX1_find_0_g : dX1_find_0_l.all (fun x => decide (decode cX1_find x.1 = .ok x.2)) = true := by decide +kernel
theorem dX1_find_0 : decode cX1_find 0 = .ok (.iconst 0, 1) := nq_d dX1_find_0_g (n := 0) rfl
theorem dX1_find_1 : decode cX1_find 1 = .ok (.istore_n 3, 1) := nq_d dX1_find_0_g (n := 1) rfl
theorem dX1_find_2 : decode cX1_find 2 = .ok (.iload_n 3, 1) := nq_d dX1_find_0_g (n := 2) rfl
theorem dX1_find_3 : decode cX1_find 3 = .ok (.aload_n 0, 1) := nq_d dX1_find_0_g (n := 3) rfl
theorem dX1_find_4 : decode cX1_find 4 = .ok (.getfield 9, 3) := nq_d dX1_find_0_g (n := 4) rfl
theorem dX1_find_7 : decode cX1_find 7 = .ok (.if_icmp .ge 31, 3) := nq_d dX1_find_0_g (n := 5) rfl
theorem dX1_find_10 : decode cX1_find 10 = .ok (.aload_n 0, 1) := nq_d dX1_find_0_g (n := 6) rfl
theorem dX1_find_11 : decode cX1_find 11 = .ok (.iload_n 3, 1) := nq_d dX1_find_0_g (n := 7) rfl
theorem dX1_find_12 : decode cX1_find 12 = .ok (.iconst 0, 1) := nq_d dX1_find_0_g (n := 8) rfl
theorem dX1_find_13 : decode cX1_find 13 = .ok (.invokevirtual 37, 3) := nq_d dX1_find_0_g (n := 9) rfl
theorem dX1_find_16 : decode cX1_find 16 = .ok (.iload_n 1, 1) := nq_d dX1_find_0_g (n := 10) rfl
theorem dX1_find_17 : decode cX1_find 17 = .ok (.if_icmp .ne 15, 3) := nq_d dX1_find_0_g (n := 11) rfl
theorem dX1_find_20 : decode cX1_find 20 = .ok (.aload_n 0, 1) := nq_d dX1_find_0_g (n := 12) rfl
theorem dX1_find_21 : decode cX1_find 21 = .ok (.iload_n 3, 1) := nq_d dX1_find_0_g (n := 13) rfl
theorem dX1_find_22 : decode cX1_find 22 = .ok (.iconst 5, 1) := nq_d dX1_find_0_g (n := 14) rfl
theorem dX1_find_23 : decode cX1_find 23 = .ok (.invokevirtual 37, 3) := nq_d dX1_find_0_g (n := 15) rfl
theorem dX1_find_26 : decode cX1_find 26 = .ok (.iload_n 2, 1) := nq_d dX1_find_0_g (n := 16) rfl
theorem dX1_find_27 : decode cX1_find 27 = .ok (.if_icmp .ne 5, 3) := nq_d dX1_find_0_g (n := 17) rfl
theorem dX1_find_30 : decode cX1_find 30 = .ok (.iload_n 3, 1) := nq_d dX1_find_0_g (n := 18) rfl
theorem dX1_find_31 : decode cX1_find 31 = .ok (.ireturn, 1) := nq_d dX1_find_0_g (n := 19) rfl
theorem dX1_find_32 : decode cX1_find 32 = .ok (.iinc 3 1, 3) := nq_d dX1_find_0_g (n := 20) rfl
theorem dX1_find_35 : decode cX1_find 35 = .ok (.goto (-33), 3) := nq_d dX1_find_0_g (n := 21) rfl
theorem dX1_find_38 : decode cX1_find 38 = .ok (.iconst (-1), 1) := nq_d dX1_find_0_g (n := 22) rfl
theorem dX1_find_39 : decode cX1_find 39 = .ok (.ireturn, 1) := nq_d dX1_find_0_g (n := 23) rfl
set_option maxRecDepth 100000 in
theorem ggX1_wasWrong_X1_factOf : GoodIn wsX1_wasWrong wsX1_factOf := goodIn_sub (sub_c (nq_m (n := 5) rfl) (sub_c (nq_m (n := 6) rfl) (sub_c (nq_m (n := 7) rfl) (sub_c (nq_m (n := 8) rfl) (sub_c (nq_m (n := 9) rfl) (sub_c (nq_m (n := 4) rfl) (sub_c (nq_m (n := 10) rfl) (sub_c (nq_m (n := 11) rfl) (sub_c (nq_m (n := 12) rfl) (sub_c (nq_m (n := 13) rfl) (sub_c (nq_m (n := 14) rfl) (sub_c (nq_m (n := 15) rfl) (sub_c (nq_m (n := 16) rfl) sub_n))))))))))))) (by decide +kernel)
set_option maxRecDepth 100000 in
theorem gX1_wasWrong_X1_factOf : GoodIn wsX1_wasWrong (wsV RX1 37 RX1 yX1_factOf wsX1_factOf) := goodIn_app (goodIn_sub (sub_c (nq_m (n := 1) rfl) (sub_c (nq_m (n := 2) rfl) (sub_c (nq_m (n := 3) rfl) (sub_c (nq_m (n := 4) rfl) sub_n)))) (by decide +kernel)) ggX1_wasWrong_X1_factOf
noncomputable def dX1_wasWrong_0_l : List (Nat × Instr × Nat) := [(0, .aload_n 0, 1), (1, .iload_n 1, 1), (2, .bipush 6, 2), (4, .invokevirtual 37, 3), (7, .iconst 1, 1), (8, .if_icmp .ne 7, 3), (11, .iconst 1, 1), (12, .goto 4, 3), (15, .iconst 0, 1), (16, .ireturn, 1)]
set_option maxRecDepth 100000 in
theorem dX1_wasWrong_0_g : dX1_wasWrong_0_l.all (fun x => decide (decode cX1_wasWrong x.1 = .ok x.2)) = true := by decide +kernel
theorem dX1_wasWrong_0 : decode cX1_wasWrong 0 = .ok (.aload_n 0, 1) := nq_d dX1_wasWrong_0_g (n := 0) rfl
theorem dX1_wasWrong_1 : decode cX1_wasWrong 1 = .ok (.iload_n 1, 1) := nq_d dX1_wasWrong_0_g (n := 1) rfl
theorem dX1_wasWrong_2 : decode cX1_wasWrong 2 = .ok (.bipush 6, 2) := nq_d dX1_wasWrong_0_g (n := 2) rfl
theorem dX1_wasWrong_4 : decode cX1_wasWrong 4 = .ok (.invokevirtual 37, 3) := nq_d dX1_wasWrong_0_g (n := 3) rfl
theorem dX1_wasWrong_7 : decode cX1_wasWrong 7 = .ok (.iconst 1, 1) := nq_d dX1_wasWrong_0_g (n := 4) rfl
theorem dX1_wasWrong_8 : decode cX1_wasWrong 8 = .ok (.if_icmp .ne 7, 3) := nq_d dX1_wasWrong_0_g (n := 5) rfl
theorem dX1_wasWrong_11 : decode cX1_wasWrong 11 = .ok (.iconst 1, 1) := nq_d dX1_wasWrong_0_g (n := 6) rfl
theorem dX1_wasWrong_12 : decode cX1_wasWrong 12 = .ok (.goto 4, 3) := nq_d dX1_wasWrong_0_g (n := 7) rfl
theorem dX1_wasWrong_15 : decode cX1_wasWrong 15 = .ok (.iconst 0, 1) := nq_d dX1_wasWrong_0_g (n := 8) rfl
theorem dX1_wasWrong_16 : decode cX1_wasWrong 16 = .ok (.ireturn, 1) := nq_d dX1_wasWrong_0_g (n := 9) rfl
set_option maxRecDepth 100000 in
theorem ggX1_firstWrong_X1_find : GoodIn wsX1_firstWrong wsX1_find := goodIn_sub (sub_c (nq_m (n := 5) rfl) (sub_c (nq_m (n := 6) rfl) (sub_c (nq_m (n := 7) rfl) (sub_c (nq_m (n := 8) rfl) (sub_c (nq_m (n := 9) rfl) (sub_c (nq_m (n := 4) rfl) (sub_c (nq_m (n := 10) rfl) (sub_c (nq_m (n := 11) rfl) (sub_c (nq_m (n := 12) rfl) (sub_c (nq_m (n := 13) rfl) (sub_c (nq_m (n := 14) rfl) (sub_c (nq_m (n := 15) rfl) (sub_c (nq_m (n := 16) rfl) (sub_c (nq_m (n := 17) rfl) (sub_c (nq_m (n := 18) rfl) (sub_c (nq_m (n := 23) rfl) (sub_c (nq_m (n := 24) rfl) sub_n))))))))))))))))) (by decide +kernel)
set_option maxRecDepth 100000 in
theorem gX1_firstWrong_X1_find : GoodIn wsX1_firstWrong (wsV RX1 41 RX1 yX1_find wsX1_find) := goodIn_app (goodIn_sub (sub_c (nq_m (n := 1) rfl) (sub_c (nq_m (n := 2) rfl) (sub_c (nq_m (n := 3) rfl) (sub_c (nq_m (n := 4) rfl) sub_n)))) (by decide +kernel)) ggX1_firstWrong_X1_find
set_option maxRecDepth 100000 in
theorem ggX1_firstWrong_X1_wasWrong : GoodIn wsX1_firstWrong wsX1_wasWrong := goodIn_sub (sub_c (nq_m (n := 22) rfl) (sub_c (nq_m (n := 7) rfl) (sub_c (nq_m (n := 8) rfl) (sub_c (nq_m (n := 9) rfl) (sub_c (nq_m (n := 4) rfl) (sub_c (nq_m (n := 10) rfl) (sub_c (nq_m (n := 11) rfl) (sub_c (nq_m (n := 12) rfl) (sub_c (nq_m (n := 13) rfl) (sub_c (nq_m (n := 14) rfl) (sub_c (nq_m (n := 15) rfl) (sub_c (nq_m (n := 6) rfl) (sub_c (nq_m (n := 16) rfl) (sub_c (nq_m (n := 17) rfl) (sub_c (nq_m (n := 18) rfl) (sub_c (nq_m (n := 23) rfl) (sub_c (nq_m (n := 24) rfl) sub_n))))))))))))))))) (by decide +kernel)
set_option maxRecDepth 100000 in
theorem gX1_firstWrong_X1_wasWrong : GoodIn wsX1_firstWrong (wsV RX1 44 RX1 yX1_wasWrong wsX1_wasWrong) := goodIn_app (goodIn_sub (sub_c (nq_m (n := 19) rfl) (sub_c (nq_m (n := 20) rfl) (sub_c (nq_m (n := 21) rfl) (sub_c (nq_m (n := 4) rfl) sub_n)))) (by decide +kernel)) ggX1_firstWrong_X1_wasWrong
set_option maxRecDepth 100000 in
theorem ggX1_firstWrong_X1_factOf : GoodIn wsX1_firstWrong wsX1_factOf := goodIn_sub (sub_c (nq_m (n := 10) rfl) (sub_c (nq_m (n := 11) rfl) (sub_c (nq_m (n := 12) rfl) (sub_c (nq_m (n := 13) rfl) (sub_c (nq_m (n := 14) rfl) (sub_c (nq_m (n := 4) rfl) (sub_c (nq_m (n := 15) rfl) (sub_c (nq_m (n := 6) rfl) (sub_c (nq_m (n := 16) rfl) (sub_c (nq_m (n := 17) rfl) (sub_c (nq_m (n := 18) rfl) (sub_c (nq_m (n := 23) rfl) (sub_c (nq_m (n := 24) rfl) sub_n))))))))))))) (by decide +kernel)
set_option maxRecDepth 100000 in
theorem gX1_firstWrong_X1_factOf : GoodIn wsX1_firstWrong (wsV RX1 37 RX1 yX1_factOf wsX1_factOf) := goodIn_app (goodIn_sub (sub_c (nq_m (n := 7) rfl) (sub_c (nq_m (n := 8) rfl) (sub_c (nq_m (n := 9) rfl) (sub_c (nq_m (n := 4) rfl) sub_n)))) (by decide +kernel)) ggX1_firstWrong_X1_factOf
noncomputable def dX1_firstWrong_0_l : List (Nat × Instr × Nat) := [(0, .aload_n 0, 1), (1, .iconst 0, 1), (2, .iload_n 1, 1), (3, .invokevirtual 41, 3), (6, .istore_n 2, 1), (7, .aload_n 0, 1), (8, .iload_n 2, 1), (9, .invokevirtual 44, 3), (12, .ifCond .eq 5, 3), (15, .iload_n 2, 1), (16, .ireturn, 1), (17, .aload_n 0, 1), (18, .iconst 1, 1), (19, .iload_n 1, 1), (20, .invokevirtual 41, 3), (23, .istore_n 3, 1), (24, .iload_n 3, 1), (25, .iconst (-1), 1), (26, .if_icmp .ne 5, 3), (29, .iconst (-1), 1), (30, .ireturn, 1), (31, .aload_n 0, 1), (32, .iload_n 3, 1), (33, .invokevirtual 44, 3), (36, .ifCond .eq 5, 3), (39, .iload_n 3, 1), (40, .ireturn, 1), (41, .aload_n 0, 1), (42, .iconst 0, 1), (43, .aload_n 0, 1), (44, .iload_n 3, 1), (45, .iconst 2, 1), (46, .invokevirtual 37, 3), (49, .invokevirtual 41, 3), (52, .istore 4, 2), (54, .aload_n 0, 1), (55, .iload 4, 2), (57, .invokevirtual 44, 3), (60, .ifCond .eq 8, 3), (63, .iload 4, 2)]
set_option maxRecDepth 100000 in
theorem dX1_firstWrong_0_g : dX1_firstWrong_0_l.all (fun x => decide (decode cX1_firstWrong x.1 = .ok x.2)) = true := by decide +kernel
theorem dX1_firstWrong_0 : decode cX1_firstWrong 0 = .ok (.aload_n 0, 1) := nq_d dX1_firstWrong_0_g (n := 0) rfl
theorem dX1_firstWrong_1 : decode cX1_firstWrong 1 = .ok (.iconst 0, 1) := nq_d dX1_firstWrong_0_g (n := 1) rfl
theorem dX1_firstWrong_2 : decode cX1_firstWrong 2 = .ok (.iload_n 1, 1) := nq_d dX1_firstWrong_0_g (n := 2) rfl
theorem dX1_firstWrong_3 : decode cX1_firstWrong 3 = .ok (.invokevirtual 41, 3) := nq_d dX1_firstWrong_0_g (n := 3) rfl
theorem dX1_firstWrong_6 : decode cX1_firstWrong 6 = .ok (.istore_n 2, 1) := nq_d dX1_firstWrong_0_g (n := 4) rfl
theorem dX1_firstWrong_7 : decode cX1_firstWrong 7 = .ok (.aload_n 0, 1) := nq_d dX1_firstWrong_0_g (n := 5) rfl
theorem dX1_firstWrong_8 : decode cX1_firstWrong 8 = .ok (.iload_n 2, 1) := nq_d dX1_firstWrong_0_g (n := 6) rfl
theorem dX1_firstWrong_9 : decode cX1_firstWrong 9 = .ok (.invokevirtual 44, 3) := nq_d dX1_firstWrong_0_g (n := 7) rfl
theorem dX1_firstWrong_12 : decode cX1_firstWrong 12 = .ok (.ifCond .eq 5, 3) := nq_d dX1_firstWrong_0_g (n := 8) rfl
theorem dX1_firstWrong_15 : decode cX1_firstWrong 15 = .ok (.iload_n 2, 1) := nq_d dX1_firstWrong_0_g (n := 9) rfl
theorem dX1_firstWrong_16 : decode cX1_firstWrong 16 = .ok (.ireturn, 1) := nq_d dX1_firstWrong_0_g (n := 10) rfl
theorem dX1_firstWrong_17 : decode cX1_firstWrong 17 = .ok (.aload_n 0, 1) := nq_d dX1_firstWrong_0_g (n := 11) rfl
theorem dX1_firstWrong_18 : decode cX1_firstWrong 18 = .ok (.iconst 1, 1) := nq_d dX1_firstWrong_0_g (n := 12) rfl
theorem dX1_firstWrong_19 : decode cX1_firstWrong 19 = .ok (.iload_n 1, 1) := nq_d dX1_firstWrong_0_g (n := 13) rfl
theorem dX1_firstWrong_20 : decode cX1_firstWrong 20 = .ok (.invokevirtual 41, 3) := nq_d dX1_firstWrong_0_g (n := 14) rfl
theorem dX1_firstWrong_23 : decode cX1_firstWrong 23 = .ok (.istore_n 3, 1) := nq_d dX1_firstWrong_0_g (n := 15) rfl
theorem dX1_firstWrong_24 : decode cX1_firstWrong 24 = .ok (.iload_n 3, 1) := nq_d dX1_firstWrong_0_g (n := 16) rfl
theorem dX1_firstWrong_25 : decode cX1_firstWrong 25 = .ok (.iconst (-1), 1) := nq_d dX1_firstWrong_0_g (n := 17) rfl
theorem dX1_firstWrong_26 : decode cX1_firstWrong 26 = .ok (.if_icmp .ne 5, 3) := nq_d dX1_firstWrong_0_g (n := 18) rfl
theorem dX1_firstWrong_29 : decode cX1_firstWrong 29 = .ok (.iconst (-1), 1) := nq_d dX1_firstWrong_0_g (n := 19) rfl
theorem dX1_firstWrong_30 : decode cX1_firstWrong 30 = .ok (.ireturn, 1) := nq_d dX1_firstWrong_0_g (n := 20) rfl
theorem dX1_firstWrong_31 : decode cX1_firstWrong 31 = .ok (.aload_n 0, 1) := nq_d dX1_firstWrong_0_g (n := 21) rfl
theorem dX1_firstWrong_32 : decode cX1_firstWrong 32 = .ok (.iload_n 3, 1) := nq_d dX1_firstWrong_0_g (n := 22) rfl
theorem dX1_firstWrong_33 : decode cX1_firstWrong 33 = .ok (.invokevirtual 44, 3) := nq_d dX1_firstWrong_0_g (n := 23) rfl
theorem dX1_firstWrong_36 : decode cX1_firstWrong 36 = .ok (.ifCond .eq 5, 3) := nq_d dX1_firstWrong_0_g (n := 24) rfl
theorem dX1_firstWrong_39 : decode cX1_firstWrong 39 = .ok (.iload_n 3, 1) := nq_d dX1_firstWrong_0_g (n := 25) rfl
theorem dX1_firstWrong_40 : decode cX1_firstWrong 40 = .ok (.ireturn, 1) := nq_d dX1_firstWrong_0_g (n := 26) rfl
theorem dX1_firstWrong_41 : decode cX1_firstWrong 41 = .ok (.aload_n 0, 1) := nq_d dX1_firstWrong_0_g (n := 27) rfl
theorem dX1_firstWrong_42 : decode cX1_firstWrong 42 = .ok (.iconst 0, 1) := nq_d dX1_firstWrong_0_g (n := 28) rfl
theorem dX1_firstWrong_43 : decode cX1_firstWrong 43 = .ok (.aload_n 0, 1) := nq_d dX1_firstWrong_0_g (n := 29) rfl
theorem dX1_firstWrong_44 : decode cX1_firstWrong 44 = .ok (.iload_n 3, 1) := nq_d dX1_firstWrong_0_g (n := 30) rfl
theorem dX1_firstWrong_45 : decode cX1_firstWrong 45 = .ok (.iconst 2, 1) := nq_d dX1_firstWrong_0_g (n := 31) rfl
theorem dX1_firstWrong_46 : decode cX1_firstWrong 46 = .ok (.invokevirtual 37, 3) := nq_d dX1_firstWrong_0_g (n := 32) rfl
theorem dX1_firstWrong_49 : decode cX1_firstWrong 49 = .ok (.invokevirtual 41, 3) := nq_d dX1_firstWrong_0_g (n := 33) rfl
theorem dX1_firstWrong_52 : decode cX1_firstWrong 52 = .ok (.istore 4, 2) := nq_d dX1_firstWrong_0_g (n := 34) rfl
theorem dX1_firstWrong_54 : decode cX1_firstWrong 54 = .ok (.aload_n 0, 1) := nq_d dX1_firstWrong_0_g (n := 35) rfl
theorem dX1_firstWrong_55 : decode cX1_firstWrong 55 = .ok (.iload 4, 2) := nq_d dX1_firstWrong_0_g (n := 36) rfl
theorem dX1_firstWrong_57 : decode cX1_firstWrong 57 = .ok (.invokevirtual 44, 3) := nq_d dX1_firstWrong_0_g (n := 37) rfl
theorem dX1_firstWrong_60 : decode cX1_firstWrong 60 = .ok (.ifCond .eq 8, 3) := nq_d dX1_firstWrong_0_g (n := 38) rfl
theorem dX1_firstWrong_63 : decode cX1_firstWrong 63 = .ok (.iload 4, 2) := nq_d dX1_firstWrong_0_g (n := 39) rfl
noncomputable def dX1_firstWrong_65_l : List (Nat × Instr × Nat) := [(65, .goto 4, 3), (68, .iconst (-1), 1), (69, .ireturn, 1)]
set_option maxRecDepth 100000 in
theorem dX1_firstWrong_65_g : dX1_firstWrong_65_l.all (fun x => decide (decode cX1_firstWrong x.1 = .ok x.2)) = true := by decide +kernel
theorem dX1_firstWrong_65 : decode cX1_firstWrong 65 = .ok (.goto 4, 3) := nq_d dX1_firstWrong_65_g (n := 0) rfl
theorem dX1_firstWrong_68 : decode cX1_firstWrong 68 = .ok (.iconst (-1), 1) := nq_d dX1_firstWrong_65_g (n := 1) rfl
theorem dX1_firstWrong_69 : decode cX1_firstWrong 69 = .ok (.ireturn, 1) := nq_d dX1_firstWrong_65_g (n := 2) rfl
noncomputable def dX2_init_0_l : List (Nat × Instr × Nat) := [(0, .aload_n 0, 1), (1, .invokespecial 3, 3), (4, .aload_n 0, 1), (5, .iconst 0, 1), (6, .putfield 9, 3), (9, .aload_n 0, 1), (10, .bipush 16, 2), (12, .newarray .int, 2), (14, .putfield 15, 3), (17, .aload_n 0, 1), (18, .bipush 16, 2), (20, .newarray .int, 2), (22, .putfield 19, 3), (25, .aload_n 0, 1), (26, .bipush 16, 2), (28, .newarray .int, 2), (30, .putfield 22, 3), (33, .aload_n 0, 1), (34, .bipush 16, 2), (36, .newarray .int, 2), (38, .putfield 25, 3), (41, .aload_n 0, 1), (42, .bipush 16, 2), (44, .newarray .int, 2), (46, .putfield 28, 3), (49, .aload_n 0, 1), (50, .bipush 16, 2), (52, .newarray .int, 2), (54, .putfield 31, 3), (57, .aload_n 0, 1), (58, .bipush 16, 2), (60, .newarray .int, 2), (62, .putfield 34, 3), (65, .return_, 1)]
set_option maxRecDepth 100000 in
theorem dX2_init_0_g : dX2_init_0_l.all (fun x => decide (decode cX2_init x.1 = .ok x.2)) = true := by decide +kernel
theorem dX2_init_0 : decode cX2_init 0 = .ok (.aload_n 0, 1) := nq_d dX2_init_0_g (n := 0) rfl
theorem dX2_init_1 : decode cX2_init 1 = .ok (.invokespecial 3, 3) := nq_d dX2_init_0_g (n := 1) rfl
theorem dX2_init_4 : decode cX2_init 4 = .ok (.aload_n 0, 1) := nq_d dX2_init_0_g (n := 2) rfl
theorem dX2_init_5 : decode cX2_init 5 = .ok (.iconst 0, 1) := nq_d dX2_init_0_g (n := 3) rfl
theorem dX2_init_6 : decode cX2_init 6 = .ok (.putfield 9, 3) := nq_d dX2_init_0_g (n := 4) rfl
theorem dX2_init_9 : decode cX2_init 9 = .ok (.aload_n 0, 1) := nq_d dX2_init_0_g (n := 5) rfl
theorem dX2_init_10 : decode cX2_init 10 = .ok (.bipush 16, 2) := nq_d dX2_init_0_g (n := 6) rfl
theorem dX2_init_12 : decode cX2_init 12 = .ok (.newarray .int, 2) := nq_d dX2_init_0_g (n := 7) rfl
theorem dX2_init_14 : decode cX2_init 14 = .ok (.putfield 15, 3) := nq_d dX2_init_0_g (n := 8) rfl
theorem dX2_init_17 : decode cX2_init 17 = .ok (.aload_n 0, 1) := nq_d dX2_init_0_g (n := 9) rfl
theorem dX2_init_18 : decode cX2_init 18 = .ok (.bipush 16, 2) := nq_d dX2_init_0_g (n := 10) rfl
theorem dX2_init_20 : decode cX2_init 20 = .ok (.newarray .int, 2) := nq_d dX2_init_0_g (n := 11) rfl
theorem dX2_init_22 : decode cX2_init 22 = .ok (.putfield 19, 3) := nq_d dX2_init_0_g (n := 12) rfl
theorem dX2_init_25 : decode cX2_init 25 = .ok (.aload_n 0, 1) := nq_d dX2_init_0_g (n := 13) rfl
theorem dX2_init_26 : decode cX2_init 26 = .ok (.bipush 16, 2) := nq_d dX2_init_0_g (n := 14) rfl
theorem dX2_init_28 : decode cX2_init 28 = .ok (.newarray .int, 2) := nq_d dX2_init_0_g (n := 15) rfl
theorem dX2_init_30 : decode cX2_init 30 = .ok (.putfield 22, 3) := nq_d dX2_init_0_g (n := 16) rfl
theorem dX2_init_33 : decode cX2_init 33 = .ok (.aload_n 0, 1) := nq_d dX2_init_0_g (n := 17) rfl
theorem dX2_init_34 : decode cX2_init 34 = .ok (.bipush 16, 2) := nq_d dX2_init_0_g (n := 18) rfl
theorem dX2_init_36 : decode cX2_init 36 = .ok (.newarray .int, 2) := nq_d dX2_init_0_g (n := 19) rfl
theorem dX2_init_38 : decode cX2_init 38 = .ok (.putfield 25, 3) := nq_d dX2_init_0_g (n := 20) rfl
theorem dX2_init_41 : decode cX2_init 41 = .ok (.aload_n 0, 1) := nq_d dX2_init_0_g (n := 21) rfl
theorem dX2_init_42 : decode cX2_init 42 = .ok (.bipush 16, 2) := nq_d dX2_init_0_g (n := 22) rfl
theorem dX2_init_44 : decode cX2_init 44 = .ok (.newarray .int, 2) := nq_d dX2_init_0_g (n := 23) rfl
theorem dX2_init_46 : decode cX2_init 46 = .ok (.putfield 28, 3) := nq_d dX2_init_0_g (n := 24) rfl
theorem dX2_init_49 : decode cX2_init 49 = .ok (.aload_n 0, 1) := nq_d dX2_init_0_g (n := 25) rfl
theorem dX2_init_50 : decode cX2_init 50 = .ok (.bipush 16, 2) := nq_d dX2_init_0_g (n := 26) rfl
theorem dX2_init_52 : decode cX2_init 52 = .ok (.newarray .int, 2) := nq_d dX2_init_0_g (n := 27) rfl
theorem dX2_init_54 : decode cX2_init 54 = .ok (.putfield 31, 3) := nq_d dX2_init_0_g (n := 28) rfl
theorem dX2_init_57 : decode cX2_init 57 = .ok (.aload_n 0, 1) := nq_d dX2_init_0_g (n := 29) rfl
theorem dX2_init_58 : decode cX2_init 58 = .ok (.bipush 16, 2) := nq_d dX2_init_0_g (n := 30) rfl
theorem dX2_init_60 : decode cX2_init 60 = .ok (.newarray .int, 2) := nq_d dX2_init_0_g (n := 31) rfl
theorem dX2_init_62 : decode cX2_init 62 = .ok (.putfield 34, 3) := nq_d dX2_init_0_g (n := 32) rfl
theorem dX2_init_65 : decode cX2_init 65 = .ok (.return_, 1) := nq_d dX2_init_0_g (n := 33) rfl
noncomputable def dX2_copyFrom_0_l : List (Nat × Instr × Nat) := [(0, .aload_n 0, 1), (1, .aload_n 1, 1), (2, .getfield 9, 3), (5, .putfield 9, 3), (8, .aload_n 1, 1), (9, .getfield 15, 3), (12, .iconst 0, 1), (13, .aload_n 0, 1), (14, .getfield 15, 3), (17, .iconst 0, 1), (18, .bipush 16, 2), (20, .invokestatic 37, 3), (23, .aload_n 1, 1), (24, .getfield 19, 3), (27, .iconst 0, 1), (28, .aload_n 0, 1), (29, .getfield 19, 3), (32, .iconst 0, 1), (33, .bipush 16, 2), (35, .invokestatic 37, 3), (38, .aload_n 1, 1), (39, .getfield 22, 3), (42, .iconst 0, 1), (43, .aload_n 0, 1), (44, .getfield 22, 3), (47, .iconst 0, 1), (48, .bipush 16, 2), (50, .invokestatic 37, 3), (53, .aload_n 1, 1), (54, .getfield 25, 3), (57, .iconst 0, 1), (58, .aload_n 0, 1), (59, .getfield 25, 3), (62, .iconst 0, 1), (63, .bipush 16, 2), (65, .invokestatic 37, 3), (68, .aload_n 1, 1), (69, .getfield 28, 3), (72, .iconst 0, 1), (73, .aload_n 0, 1)]
set_option maxRecDepth 100000 in
theorem dX2_copyFrom_0_g : dX2_copyFrom_0_l.all (fun x => decide (decode cX2_copyFrom x.1 = .ok x.2)) = true := by decide +kernel
theorem dX2_copyFrom_0 : decode cX2_copyFrom 0 = .ok (.aload_n 0, 1) := nq_d dX2_copyFrom_0_g (n := 0) rfl
theorem dX2_copyFrom_1 : decode cX2_copyFrom 1 = .ok (.aload_n 1, 1) := nq_d dX2_copyFrom_0_g (n := 1) rfl
theorem dX2_copyFrom_2 : decode cX2_copyFrom 2 = .ok (.getfield 9, 3) := nq_d dX2_copyFrom_0_g (n := 2) rfl
theorem dX2_copyFrom_5 : decode cX2_copyFrom 5 = .ok (.putfield 9, 3) := nq_d dX2_copyFrom_0_g (n := 3) rfl
theorem dX2_copyFrom_8 : decode cX2_copyFrom 8 = .ok (.aload_n 1, 1) := nq_d dX2_copyFrom_0_g (n := 4) rfl
theorem dX2_copyFrom_9 : decode cX2_copyFrom 9 = .ok (.getfield 15, 3) := nq_d dX2_copyFrom_0_g (n := 5) rfl
theorem dX2_copyFrom_12 : decode cX2_copyFrom 12 = .ok (.iconst 0, 1) := nq_d dX2_copyFrom_0_g (n := 6) rfl
theorem dX2_copyFrom_13 : decode cX2_copyFrom 13 = .ok (.aload_n 0, 1) := nq_d dX2_copyFrom_0_g (n := 7) rfl
theorem dX2_copyFrom_14 : decode cX2_copyFrom 14 = .ok (.getfield 15, 3) := nq_d dX2_copyFrom_0_g (n := 8) rfl
theorem dX2_copyFrom_17 : decode cX2_copyFrom 17 = .ok (.iconst 0, 1) := nq_d dX2_copyFrom_0_g (n := 9) rfl
theorem dX2_copyFrom_18 : decode cX2_copyFrom 18 = .ok (.bipush 16, 2) := nq_d dX2_copyFrom_0_g (n := 10) rfl
theorem dX2_copyFrom_20 : decode cX2_copyFrom 20 = .ok (.invokestatic 37, 3) := nq_d dX2_copyFrom_0_g (n := 11) rfl
theorem dX2_copyFrom_23 : decode cX2_copyFrom 23 = .ok (.aload_n 1, 1) := nq_d dX2_copyFrom_0_g (n := 12) rfl
theorem dX2_copyFrom_24 : decode cX2_copyFrom 24 = .ok (.getfield 19, 3) := nq_d dX2_copyFrom_0_g (n := 13) rfl
theorem dX2_copyFrom_27 : decode cX2_copyFrom 27 = .ok (.iconst 0, 1) := nq_d dX2_copyFrom_0_g (n := 14) rfl
theorem dX2_copyFrom_28 : decode cX2_copyFrom 28 = .ok (.aload_n 0, 1) := nq_d dX2_copyFrom_0_g (n := 15) rfl
theorem dX2_copyFrom_29 : decode cX2_copyFrom 29 = .ok (.getfield 19, 3) := nq_d dX2_copyFrom_0_g (n := 16) rfl
theorem dX2_copyFrom_32 : decode cX2_copyFrom 32 = .ok (.iconst 0, 1) := nq_d dX2_copyFrom_0_g (n := 17) rfl
theorem dX2_copyFrom_33 : decode cX2_copyFrom 33 = .ok (.bipush 16, 2) := nq_d dX2_copyFrom_0_g (n := 18) rfl
theorem dX2_copyFrom_35 : decode cX2_copyFrom 35 = .ok (.invokestatic 37, 3) := nq_d dX2_copyFrom_0_g (n := 19) rfl
theorem dX2_copyFrom_38 : decode cX2_copyFrom 38 = .ok (.aload_n 1, 1) := nq_d dX2_copyFrom_0_g (n := 20) rfl
theorem dX2_copyFrom_39 : decode cX2_copyFrom 39 = .ok (.getfield 22, 3) := nq_d dX2_copyFrom_0_g (n := 21) rfl
theorem dX2_copyFrom_42 : decode cX2_copyFrom 42 = .ok (.iconst 0, 1) := nq_d dX2_copyFrom_0_g (n := 22) rfl
theorem dX2_copyFrom_43 : decode cX2_copyFrom 43 = .ok (.aload_n 0, 1) := nq_d dX2_copyFrom_0_g (n := 23) rfl
theorem dX2_copyFrom_44 : decode cX2_copyFrom 44 = .ok (.getfield 22, 3) := nq_d dX2_copyFrom_0_g (n := 24) rfl
theorem dX2_copyFrom_47 : decode cX2_copyFrom 47 = .ok (.iconst 0, 1) := nq_d dX2_copyFrom_0_g (n := 25) rfl
theorem dX2_copyFrom_48 : decode cX2_copyFrom 48 = .ok (.bipush 16, 2) := nq_d dX2_copyFrom_0_g (n := 26) rfl
theorem dX2_copyFrom_50 : decode cX2_copyFrom 50 = .ok (.invokestatic 37, 3) := nq_d dX2_copyFrom_0_g (n := 27) rfl
theorem dX2_copyFrom_53 : decode cX2_copyFrom 53 = .ok (.aload_n 1, 1) := nq_d dX2_copyFrom_0_g (n := 28) rfl
theorem dX2_copyFrom_54 : decode cX2_copyFrom 54 = .ok (.getfield 25, 3) := nq_d dX2_copyFrom_0_g (n := 29) rfl
theorem dX2_copyFrom_57 : decode cX2_copyFrom 57 = .ok (.iconst 0, 1) := nq_d dX2_copyFrom_0_g (n := 30) rfl
theorem dX2_copyFrom_58 : decode cX2_copyFrom 58 = .ok (.aload_n 0, 1) := nq_d dX2_copyFrom_0_g (n := 31) rfl
theorem dX2_copyFrom_59 : decode cX2_copyFrom 59 = .ok (.getfield 25, 3) := nq_d dX2_copyFrom_0_g (n := 32) rfl
theorem dX2_copyFrom_62 : decode cX2_copyFrom 62 = .ok (.iconst 0, 1) := nq_d dX2_copyFrom_0_g (n := 33) rfl
theorem dX2_copyFrom_63 : decode cX2_copyFrom 63 = .ok (.bipush 16, 2) := nq_d dX2_copyFrom_0_g (n := 34) rfl
theorem dX2_copyFrom_65 : decode cX2_copyFrom 65 = .ok (.invokestatic 37, 3) := nq_d dX2_copyFrom_0_g (n := 35) rfl
theorem dX2_copyFrom_68 : decode cX2_copyFrom 68 = .ok (.aload_n 1, 1) := nq_d dX2_copyFrom_0_g (n := 36) rfl
theorem dX2_copyFrom_69 : decode cX2_copyFrom 69 = .ok (.getfield 28, 3) := nq_d dX2_copyFrom_0_g (n := 37) rfl
theorem dX2_copyFrom_72 : decode cX2_copyFrom 72 = .ok (.iconst 0, 1) := nq_d dX2_copyFrom_0_g (n := 38) rfl
theorem dX2_copyFrom_73 : decode cX2_copyFrom 73 = .ok (.aload_n 0, 1) := nq_d dX2_copyFrom_0_g (n := 39) rfl
noncomputable def dX2_copyFrom_74_l : List (Nat × Instr × Nat) := [(74, .getfield 28, 3), (77, .iconst 0, 1), (78, .bipush 16, 2), (80, .invokestatic 37, 3), (83, .aload_n 1, 1), (84, .getfield 31, 3), (87, .iconst 0, 1), (88, .aload_n 0, 1), (89, .getfield 31, 3), (92, .iconst 0, 1), (93, .bipush 16, 2), (95, .invokestatic 37, 3), (98, .aload_n 1, 1), (99, .getfield 34, 3), (102, .iconst 0, 1), (103, .aload_n 0, 1), (104, .getfield 34, 3), (107, .iconst 0, 1), (108, .bipush 16, 2), (110, .invokestatic 37, 3), (113, .return_, 1)]
set_option maxRecDepth 100000 in
theorem dX2_copyFrom_74_g : dX2_copyFrom_74_l.all (fun x => decide (decode cX2_copyFrom x.1 = .ok x.2)) = true := by decide +kernel
theorem dX2_copyFrom_74 : decode cX2_copyFrom 74 = .ok (.getfield 28, 3) := nq_d dX2_copyFrom_74_g (n := 0) rfl
theorem dX2_copyFrom_77 : decode cX2_copyFrom 77 = .ok (.iconst 0, 1) := nq_d dX2_copyFrom_74_g (n := 1) rfl
theorem dX2_copyFrom_78 : decode cX2_copyFrom 78 = .ok (.bipush 16, 2) := nq_d dX2_copyFrom_74_g (n := 2) rfl
theorem dX2_copyFrom_80 : decode cX2_copyFrom 80 = .ok (.invokestatic 37, 3) := nq_d dX2_copyFrom_74_g (n := 3) rfl
theorem dX2_copyFrom_83 : decode cX2_copyFrom 83 = .ok (.aload_n 1, 1) := nq_d dX2_copyFrom_74_g (n := 4) rfl
theorem dX2_copyFrom_84 : decode cX2_copyFrom 84 = .ok (.getfield 31, 3) := nq_d dX2_copyFrom_74_g (n := 5) rfl
theorem dX2_copyFrom_87 : decode cX2_copyFrom 87 = .ok (.iconst 0, 1) := nq_d dX2_copyFrom_74_g (n := 6) rfl
theorem dX2_copyFrom_88 : decode cX2_copyFrom 88 = .ok (.aload_n 0, 1) := nq_d dX2_copyFrom_74_g (n := 7) rfl
theorem dX2_copyFrom_89 : decode cX2_copyFrom 89 = .ok (.getfield 31, 3) := nq_d dX2_copyFrom_74_g (n := 8) rfl
theorem dX2_copyFrom_92 : decode cX2_copyFrom 92 = .ok (.iconst 0, 1) := nq_d dX2_copyFrom_74_g (n := 9) rfl
theorem dX2_copyFrom_93 : decode cX2_copyFrom 93 = .ok (.bipush 16, 2) := nq_d dX2_copyFrom_74_g (n := 10) rfl
theorem dX2_copyFrom_95 : decode cX2_copyFrom 95 = .ok (.invokestatic 37, 3) := nq_d dX2_copyFrom_74_g (n := 11) rfl
theorem dX2_copyFrom_98 : decode cX2_copyFrom 98 = .ok (.aload_n 1, 1) := nq_d dX2_copyFrom_74_g (n := 12) rfl
theorem dX2_copyFrom_99 : decode cX2_copyFrom 99 = .ok (.getfield 34, 3) := nq_d dX2_copyFrom_74_g (n := 13) rfl
theorem dX2_copyFrom_102 : decode cX2_copyFrom 102 = .ok (.iconst 0, 1) := nq_d dX2_copyFrom_74_g (n := 14) rfl
theorem dX2_copyFrom_103 : decode cX2_copyFrom 103 = .ok (.aload_n 0, 1) := nq_d dX2_copyFrom_74_g (n := 15) rfl
theorem dX2_copyFrom_104 : decode cX2_copyFrom 104 = .ok (.getfield 34, 3) := nq_d dX2_copyFrom_74_g (n := 16) rfl
theorem dX2_copyFrom_107 : decode cX2_copyFrom 107 = .ok (.iconst 0, 1) := nq_d dX2_copyFrom_74_g (n := 17) rfl
theorem dX2_copyFrom_108 : decode cX2_copyFrom 108 = .ok (.bipush 16, 2) := nq_d dX2_copyFrom_74_g (n := 18) rfl
theorem dX2_copyFrom_110 : decode cX2_copyFrom 110 = .ok (.invokestatic 37, 3) := nq_d dX2_copyFrom_74_g (n := 19) rfl
theorem dX2_copyFrom_113 : decode cX2_copyFrom 113 = .ok (.return_, 1) := nq_d dX2_copyFrom_74_g (n := 20) rfl
noncomputable def dX2_knows_0_l : List (Nat × Instr × Nat) := [(0, .iload_n 1, 1), (1, .ifCond .lt 21, 3), (4, .iload_n 1, 1), (5, .aload_n 0, 1), (6, .getfield 9, 3), (9, .if_icmp .ge 13, 3), (12, .iload_n 1, 1), (13, .bipush 16, 2), (15, .if_icmp .ge 7, 3), (18, .iconst 1, 1), (19, .goto 4, 3), (22, .iconst 0, 1), (23, .ireturn, 1)]
set_option maxRecDepth 100000 in
theorem dX2_knows_0_g : dX2_knows_0_l.all (fun x => decide (decode cX2_knows x.1 = .ok x.2)) = true := by decide +kernel
theorem dX2_knows_0 : decode cX2_knows 0 = .ok (.iload_n 1, 1) := nq_d dX2_knows_0_g (n := 0) rfl
theorem dX2_knows_1 : decode cX2_knows 1 = .ok (.ifCond .lt 21, 3) := nq_d dX2_knows_0_g (n := 1) rfl
theorem dX2_knows_4 : decode cX2_knows 4 = .ok (.iload_n 1, 1) := nq_d dX2_knows_0_g (n := 2) rfl
theorem dX2_knows_5 : decode cX2_knows 5 = .ok (.aload_n 0, 1) := nq_d dX2_knows_0_g (n := 3) rfl
theorem dX2_knows_6 : decode cX2_knows 6 = .ok (.getfield 9, 3) := nq_d dX2_knows_0_g (n := 4) rfl
theorem dX2_knows_9 : decode cX2_knows 9 = .ok (.if_icmp .ge 13, 3) := nq_d dX2_knows_0_g (n := 5) rfl
theorem dX2_knows_12 : decode cX2_knows 12 = .ok (.iload_n 1, 1) := nq_d dX2_knows_0_g (n := 6) rfl
theorem dX2_knows_13 : decode cX2_knows 13 = .ok (.bipush 16, 2) := nq_d dX2_knows_0_g (n := 7) rfl
theorem dX2_knows_15 : decode cX2_knows 15 = .ok (.if_icmp .ge 7, 3) := nq_d dX2_knows_0_g (n := 8) rfl
theorem dX2_knows_18 : decode cX2_knows 18 = .ok (.iconst 1, 1) := nq_d dX2_knows_0_g (n := 9) rfl
theorem dX2_knows_19 : decode cX2_knows 19 = .ok (.goto 4, 3) := nq_d dX2_knows_0_g (n := 10) rfl
theorem dX2_knows_22 : decode cX2_knows 22 = .ok (.iconst 0, 1) := nq_d dX2_knows_0_g (n := 11) rfl
theorem dX2_knows_23 : decode cX2_knows 23 = .ok (.ireturn, 1) := nq_d dX2_knows_0_g (n := 12) rfl
noncomputable def dX2_add_0_l : List (Nat × Instr × Nat) := [(0, .aload_n 0, 1), (1, .getfield 9, 3), (4, .istore 5, 2), (6, .iload 5, 2), (8, .ifCond .lt 10, 3), (11, .iload 5, 2), (13, .bipush 16, 2), (15, .if_icmp .lt 7, 3), (18, .sipush (-1004), 3), (21, .ireturn, 1), (22, .aload_n 0, 1), (23, .getfield 15, 3), (26, .iload 5, 2), (28, .iload_n 1, 1), (29, .iastore, 1), (30, .aload_n 0, 1), (31, .getfield 19, 3), (34, .iload 5, 2), (36, .iload_n 2, 1), (37, .iastore, 1), (38, .aload_n 0, 1), (39, .getfield 22, 3), (42, .iload 5, 2), (44, .iload_n 3, 1), (45, .iastore, 1), (46, .aload_n 0, 1), (47, .getfield 25, 3), (50, .iload 5, 2), (52, .iload 4, 2), (54, .iastore, 1), (55, .aload_n 0, 1), (56, .getfield 28, 3), (59, .iload 5, 2), (61, .iconst (-1), 1), (62, .iastore, 1), (63, .aload_n 0, 1), (64, .getfield 31, 3), (67, .iload 5, 2), (69, .iconst (-1), 1), (70, .iastore, 1)]
set_option maxRecDepth 100000 in
theorem dX2_add_0_g : dX2_add_0_l.all (fun x => decide (decode cX2_add x.1 = .ok x.2)) = true := by decide +kernel
theorem dX2_add_0 : decode cX2_add 0 = .ok (.aload_n 0, 1) := nq_d dX2_add_0_g (n := 0) rfl
theorem dX2_add_1 : decode cX2_add 1 = .ok (.getfield 9, 3) := nq_d dX2_add_0_g (n := 1) rfl
theorem dX2_add_4 : decode cX2_add 4 = .ok (.istore 5, 2) := nq_d dX2_add_0_g (n := 2) rfl
theorem dX2_add_6 : decode cX2_add 6 = .ok (.iload 5, 2) := nq_d dX2_add_0_g (n := 3) rfl
theorem dX2_add_8 : decode cX2_add 8 = .ok (.ifCond .lt 10, 3) := nq_d dX2_add_0_g (n := 4) rfl
theorem dX2_add_11 : decode cX2_add 11 = .ok (.iload 5, 2) := nq_d dX2_add_0_g (n := 5) rfl
theorem dX2_add_13 : decode cX2_add 13 = .ok (.bipush 16, 2) := nq_d dX2_add_0_g (n := 6) rfl
theorem dX2_add_15 : decode cX2_add 15 = .ok (.if_icmp .lt 7, 3) := nq_d dX2_add_0_g (n := 7) rfl
theorem dX2_add_18 : decode cX2_add 18 = .ok (.sipush (-1004), 3) := nq_d dX2_add_0_g (n := 8) rfl
theorem dX2_add_21 : decode cX2_add 21 = .ok (.ireturn, 1) := nq_d dX2_add_0_g (n := 9) rfl
theorem dX2_add_22 : decode cX2_add 22 = .ok (.aload_n 0, 1) := nq_d dX2_add_0_g (n := 10) rfl
theorem dX2_add_23 : decode cX2_add 23 = .ok (.getfield 15, 3) := nq_d dX2_add_0_g (n := 11) rfl
theorem dX2_add_26 : decode cX2_add 26 = .ok (.iload 5, 2) := nq_d dX2_add_0_g (n := 12) rfl
theorem dX2_add_28 : decode cX2_add 28 = .ok (.iload_n 1, 1) := nq_d dX2_add_0_g (n := 13) rfl
theorem dX2_add_29 : decode cX2_add 29 = .ok (.iastore, 1) := nq_d dX2_add_0_g (n := 14) rfl
theorem dX2_add_30 : decode cX2_add 30 = .ok (.aload_n 0, 1) := nq_d dX2_add_0_g (n := 15) rfl
theorem dX2_add_31 : decode cX2_add 31 = .ok (.getfield 19, 3) := nq_d dX2_add_0_g (n := 16) rfl
theorem dX2_add_34 : decode cX2_add 34 = .ok (.iload 5, 2) := nq_d dX2_add_0_g (n := 17) rfl
theorem dX2_add_36 : decode cX2_add 36 = .ok (.iload_n 2, 1) := nq_d dX2_add_0_g (n := 18) rfl
theorem dX2_add_37 : decode cX2_add 37 = .ok (.iastore, 1) := nq_d dX2_add_0_g (n := 19) rfl
theorem dX2_add_38 : decode cX2_add 38 = .ok (.aload_n 0, 1) := nq_d dX2_add_0_g (n := 20) rfl
theorem dX2_add_39 : decode cX2_add 39 = .ok (.getfield 22, 3) := nq_d dX2_add_0_g (n := 21) rfl
theorem dX2_add_42 : decode cX2_add 42 = .ok (.iload 5, 2) := nq_d dX2_add_0_g (n := 22) rfl
theorem dX2_add_44 : decode cX2_add 44 = .ok (.iload_n 3, 1) := nq_d dX2_add_0_g (n := 23) rfl
theorem dX2_add_45 : decode cX2_add 45 = .ok (.iastore, 1) := nq_d dX2_add_0_g (n := 24) rfl
theorem dX2_add_46 : decode cX2_add 46 = .ok (.aload_n 0, 1) := nq_d dX2_add_0_g (n := 25) rfl
theorem dX2_add_47 : decode cX2_add 47 = .ok (.getfield 25, 3) := nq_d dX2_add_0_g (n := 26) rfl
theorem dX2_add_50 : decode cX2_add 50 = .ok (.iload 5, 2) := nq_d dX2_add_0_g (n := 27) rfl
theorem dX2_add_52 : decode cX2_add 52 = .ok (.iload 4, 2) := nq_d dX2_add_0_g (n := 28) rfl
theorem dX2_add_54 : decode cX2_add 54 = .ok (.iastore, 1) := nq_d dX2_add_0_g (n := 29) rfl
theorem dX2_add_55 : decode cX2_add 55 = .ok (.aload_n 0, 1) := nq_d dX2_add_0_g (n := 30) rfl
theorem dX2_add_56 : decode cX2_add 56 = .ok (.getfield 28, 3) := nq_d dX2_add_0_g (n := 31) rfl
theorem dX2_add_59 : decode cX2_add 59 = .ok (.iload 5, 2) := nq_d dX2_add_0_g (n := 32) rfl
theorem dX2_add_61 : decode cX2_add 61 = .ok (.iconst (-1), 1) := nq_d dX2_add_0_g (n := 33) rfl
theorem dX2_add_62 : decode cX2_add 62 = .ok (.iastore, 1) := nq_d dX2_add_0_g (n := 34) rfl
theorem dX2_add_63 : decode cX2_add 63 = .ok (.aload_n 0, 1) := nq_d dX2_add_0_g (n := 35) rfl
theorem dX2_add_64 : decode cX2_add 64 = .ok (.getfield 31, 3) := nq_d dX2_add_0_g (n := 36) rfl
theorem dX2_add_67 : decode cX2_add 67 = .ok (.iload 5, 2) := nq_d dX2_add_0_g (n := 37) rfl
theorem dX2_add_69 : decode cX2_add 69 = .ok (.iconst (-1), 1) := nq_d dX2_add_0_g (n := 38) rfl
theorem dX2_add_70 : decode cX2_add 70 = .ok (.iastore, 1) := nq_d dX2_add_0_g (n := 39) rfl
noncomputable def dX2_add_71_l : List (Nat × Instr × Nat) := [(71, .aload_n 0, 1), (72, .getfield 34, 3), (75, .iload 5, 2), (77, .iconst (-1), 1), (78, .iastore, 1), (79, .aload_n 0, 1), (80, .dup, 1), (81, .getfield 9, 3), (84, .iconst 1, 1), (85, .iadd, 1), (86, .putfield 9, 3), (89, .iload 5, 2), (91, .ireturn, 1)]
set_option maxRecDepth 100000 in
theorem dX2_add_71_g : dX2_add_71_l.all (fun x => decide (decode cX2_add x.1 = .ok x.2)) = true := by decide +kernel
theorem dX2_add_71 : decode cX2_add 71 = .ok (.aload_n 0, 1) := nq_d dX2_add_71_g (n := 0) rfl
theorem dX2_add_72 : decode cX2_add 72 = .ok (.getfield 34, 3) := nq_d dX2_add_71_g (n := 1) rfl
theorem dX2_add_75 : decode cX2_add 75 = .ok (.iload 5, 2) := nq_d dX2_add_71_g (n := 2) rfl
theorem dX2_add_77 : decode cX2_add 77 = .ok (.iconst (-1), 1) := nq_d dX2_add_71_g (n := 3) rfl
theorem dX2_add_78 : decode cX2_add 78 = .ok (.iastore, 1) := nq_d dX2_add_71_g (n := 4) rfl
theorem dX2_add_79 : decode cX2_add 79 = .ok (.aload_n 0, 1) := nq_d dX2_add_71_g (n := 5) rfl
theorem dX2_add_80 : decode cX2_add 80 = .ok (.dup, 1) := nq_d dX2_add_71_g (n := 6) rfl
theorem dX2_add_81 : decode cX2_add 81 = .ok (.getfield 9, 3) := nq_d dX2_add_71_g (n := 7) rfl
theorem dX2_add_84 : decode cX2_add 84 = .ok (.iconst 1, 1) := nq_d dX2_add_71_g (n := 8) rfl
theorem dX2_add_85 : decode cX2_add 85 = .ok (.iadd, 1) := nq_d dX2_add_71_g (n := 9) rfl
theorem dX2_add_86 : decode cX2_add 86 = .ok (.putfield 9, 3) := nq_d dX2_add_71_g (n := 10) rfl
theorem dX2_add_89 : decode cX2_add 89 = .ok (.iload 5, 2) := nq_d dX2_add_71_g (n := 11) rfl
theorem dX2_add_91 : decode cX2_add 91 = .ok (.ireturn, 1) := nq_d dX2_add_71_g (n := 12) rfl
set_option maxRecDepth 100000 in
theorem ggX2_kindOf_X2_knows : GoodIn wsX2_kindOf wsX2_knows := goodIn_sub (sub_c (nq_m (n := 6) rfl) (sub_c (nq_m (n := 7) rfl) (sub_c (nq_m (n := 8) rfl) (sub_c (nq_m (n := 9) rfl) (sub_c (nq_m (n := 10) rfl) (sub_c (nq_m (n := 11) rfl) (sub_c (nq_m (n := 12) rfl) (sub_c (nq_m (n := 13) rfl) (sub_c (nq_m (n := 14) rfl) (sub_c (nq_m (n := 15) rfl) sub_n)))))))))) (by decide +kernel)
set_option maxRecDepth 100000 in
theorem gX2_kindOf_X2_knows : GoodIn wsX2_kindOf (wsV RX2 43 RX2 yX2_knows wsX2_knows) := goodIn_app (goodIn_sub (sub_c (nq_m (n := 2) rfl) (sub_c (nq_m (n := 3) rfl) (sub_c (nq_m (n := 4) rfl) (sub_c (nq_m (n := 5) rfl) sub_n)))) (by decide +kernel)) ggX2_kindOf_X2_knows
noncomputable def dX2_kindOf_0_l : List (Nat × Instr × Nat) := [(0, .aload_n 0, 1), (1, .iload_n 1, 1), (2, .invokevirtual 43, 3), (5, .ifCond .eq 12, 3), (8, .aload_n 0, 1), (9, .getfield 19, 3), (12, .iload_n 1, 1), (13, .iaload, 1), (14, .goto 4, 3), (17, .iconst (-1), 1), (18, .ireturn, 1)]
set_option maxRecDepth 100000 in
theorem dX2_kindOf_0_g : dX2_kindOf_0_l.all (fun x => decide (decode cX2_kindOf x.1 = .ok x.2)) = true := by decide +kernel
theorem dX2_kindOf_0 : decode cX2_kindOf 0 = .ok (.aload_n 0, 1) := nq_d dX2_kindOf_0_g (n := 0) rfl
theorem dX2_kindOf_1 : decode cX2_kindOf 1 = .ok (.iload_n 1, 1) := nq_d dX2_kindOf_0_g (n := 1) rfl
theorem dX2_kindOf_2 : decode cX2_kindOf 2 = .ok (.invokevirtual 43, 3) := nq_d dX2_kindOf_0_g (n := 2) rfl
theorem dX2_kindOf_5 : decode cX2_kindOf 5 = .ok (.ifCond .eq 12, 3) := nq_d dX2_kindOf_0_g (n := 3) rfl
theorem dX2_kindOf_8 : decode cX2_kindOf 8 = .ok (.aload_n 0, 1) := nq_d dX2_kindOf_0_g (n := 4) rfl
theorem dX2_kindOf_9 : decode cX2_kindOf 9 = .ok (.getfield 19, 3) := nq_d dX2_kindOf_0_g (n := 5) rfl
theorem dX2_kindOf_12 : decode cX2_kindOf 12 = .ok (.iload_n 1, 1) := nq_d dX2_kindOf_0_g (n := 6) rfl
theorem dX2_kindOf_13 : decode cX2_kindOf 13 = .ok (.iaload, 1) := nq_d dX2_kindOf_0_g (n := 7) rfl
theorem dX2_kindOf_14 : decode cX2_kindOf 14 = .ok (.goto 4, 3) := nq_d dX2_kindOf_0_g (n := 8) rfl
theorem dX2_kindOf_17 : decode cX2_kindOf 17 = .ok (.iconst (-1), 1) := nq_d dX2_kindOf_0_g (n := 9) rfl
theorem dX2_kindOf_18 : decode cX2_kindOf 18 = .ok (.ireturn, 1) := nq_d dX2_kindOf_0_g (n := 10) rfl
set_option maxRecDepth 100000 in
theorem ggX2_marksOf_X2_knows : GoodIn wsX2_marksOf wsX2_knows := goodIn_sub (sub_c (nq_m (n := 6) rfl) (sub_c (nq_m (n := 7) rfl) (sub_c (nq_m (n := 8) rfl) (sub_c (nq_m (n := 9) rfl) (sub_c (nq_m (n := 10) rfl) (sub_c (nq_m (n := 11) rfl) (sub_c (nq_m (n := 12) rfl) (sub_c (nq_m (n := 13) rfl) (sub_c (nq_m (n := 14) rfl) (sub_c (nq_m (n := 15) rfl) sub_n)))))))))) (by decide +kernel)
set_option maxRecDepth 100000 in
theorem gX2_marksOf_X2_knows : GoodIn wsX2_marksOf (wsV RX2 43 RX2 yX2_knows wsX2_knows) := goodIn_app (goodIn_sub (sub_c (nq_m (n := 2) rfl) (sub_c (nq_m (n := 3) rfl) (sub_c (nq_m (n := 4) rfl) (sub_c (nq_m (n := 5) rfl) sub_n)))) (by decide +kernel)) ggX2_marksOf_X2_knows
noncomputable def dX2_marksOf_0_l : List (Nat × Instr × Nat) := [(0, .aload_n 0, 1), (1, .iload_n 1, 1), (2, .invokevirtual 43, 3), (5, .ifCond .eq 12, 3), (8, .aload_n 0, 1), (9, .getfield 25, 3), (12, .iload_n 1, 1), (13, .iaload, 1), (14, .goto 4, 3), (17, .iconst 0, 1), (18, .ireturn, 1)]
set_option maxRecDepth 100000 in
theorem dX2_marksOf_0_g : dX2_marksOf_0_l.all (fun x => decide (decode cX2_marksOf x.1 = .ok x.2)) = true := by decide +kernel
theorem dX2_marksOf_0 : decode cX2_marksOf 0 = .ok (.aload_n 0, 1) := nq_d dX2_marksOf_0_g (n := 0) rfl
theorem dX2_marksOf_1 : decode cX2_marksOf 1 = .ok (.iload_n 1, 1) := nq_d dX2_marksOf_0_g (n := 1) rfl
theorem dX2_marksOf_2 : decode cX2_marksOf 2 = .ok (.invokevirtual 43, 3) := nq_d dX2_marksOf_0_g (n := 2) rfl
theorem dX2_marksOf_5 : decode cX2_marksOf 5 = .ok (.ifCond .eq 12, 3) := nq_d dX2_marksOf_0_g (n := 3) rfl
theorem dX2_marksOf_8 : decode cX2_marksOf 8 = .ok (.aload_n 0, 1) := nq_d dX2_marksOf_0_g (n := 4) rfl
theorem dX2_marksOf_9 : decode cX2_marksOf 9 = .ok (.getfield 25, 3) := nq_d dX2_marksOf_0_g (n := 5) rfl
theorem dX2_marksOf_12 : decode cX2_marksOf 12 = .ok (.iload_n 1, 1) := nq_d dX2_marksOf_0_g (n := 6) rfl
theorem dX2_marksOf_13 : decode cX2_marksOf 13 = .ok (.iaload, 1) := nq_d dX2_marksOf_0_g (n := 7) rfl
theorem dX2_marksOf_14 : decode cX2_marksOf 14 = .ok (.goto 4, 3) := nq_d dX2_marksOf_0_g (n := 8) rfl
theorem dX2_marksOf_17 : decode cX2_marksOf 17 = .ok (.iconst 0, 1) := nq_d dX2_marksOf_0_g (n := 9) rfl
theorem dX2_marksOf_18 : decode cX2_marksOf 18 = .ok (.ireturn, 1) := nq_d dX2_marksOf_0_g (n := 10) rfl
set_option maxRecDepth 100000 in
theorem ggX2_hangs_X2_knows : GoodIn wsX2_hangs wsX2_knows := goodIn_sub (sub_c (nq_m (n := 6) rfl) (sub_c (nq_m (n := 7) rfl) (sub_c (nq_m (n := 8) rfl) (sub_c (nq_m (n := 9) rfl) (sub_c (nq_m (n := 10) rfl) (sub_c (nq_m (n := 11) rfl) (sub_c (nq_m (n := 12) rfl) (sub_c (nq_m (n := 13) rfl) (sub_c (nq_m (n := 14) rfl) (sub_c (nq_m (n := 15) rfl) sub_n)))))))))) (by decide +kernel)
set_option maxRecDepth 100000 in
theorem gX2_hangs_X2_knows : GoodIn wsX2_hangs (wsV RX2 43 RX2 yX2_knows wsX2_knows) := goodIn_app (goodIn_sub (sub_c (nq_m (n := 2) rfl) (sub_c (nq_m (n := 3) rfl) (sub_c (nq_m (n := 4) rfl) (sub_c (nq_m (n := 5) rfl) sub_n)))) (by decide +kernel)) ggX2_hangs_X2_knows
noncomputable def dX2_hangs_0_l : List (Nat × Instr × Nat) := [(0, .aload_n 0, 1), (1, .iload_n 1, 1), (2, .invokevirtual 43, 3), (5, .ifCond .eq 17, 3), (8, .aload_n 0, 1), (9, .getfield 31, 3), (12, .iload_n 1, 1), (13, .iaload, 1), (14, .iconst (-1), 1), (15, .if_icmp .eq 7, 3), (18, .iconst 1, 1), (19, .goto 4, 3), (22, .iconst 0, 1), (23, .ireturn, 1)]
set_option maxRecDepth 100000 in
theorem dX2_hangs_0_g : dX2_hangs_0_l.all (fun x => decide (decode cX2_hangs x.1 = .ok x.2)) = true := by decide +kernel
theorem dX2_hangs_0 : decode cX2_hangs 0 = .ok (.aload_n 0, 1) := nq_d dX2_hangs_0_g (n := 0) rfl
theorem dX2_hangs_1 : decode cX2_hangs 1 = .ok (.iload_n 1, 1) := nq_d dX2_hangs_0_g (n := 1) rfl
theorem dX2_hangs_2 : decode cX2_hangs 2 = .ok (.invokevirtual 43, 3) := nq_d dX2_hangs_0_g (n := 2) rfl
theorem dX2_hangs_5 : decode cX2_hangs 5 = .ok (.ifCond .eq 17, 3) := nq_d dX2_hangs_0_g (n := 3) rfl
theorem dX2_hangs_8 : decode cX2_hangs 8 = .ok (.aload_n 0, 1) := nq_d dX2_hangs_0_g (n := 4) rfl
theorem dX2_hangs_9 : decode cX2_hangs 9 = .ok (.getfield 31, 3) := nq_d dX2_hangs_0_g (n := 5) rfl
theorem dX2_hangs_12 : decode cX2_hangs 12 = .ok (.iload_n 1, 1) := nq_d dX2_hangs_0_g (n := 6) rfl
theorem dX2_hangs_13 : decode cX2_hangs 13 = .ok (.iaload, 1) := nq_d dX2_hangs_0_g (n := 7) rfl
theorem dX2_hangs_14 : decode cX2_hangs 14 = .ok (.iconst (-1), 1) := nq_d dX2_hangs_0_g (n := 8) rfl
theorem dX2_hangs_15 : decode cX2_hangs 15 = .ok (.if_icmp .eq 7, 3) := nq_d dX2_hangs_0_g (n := 9) rfl
theorem dX2_hangs_18 : decode cX2_hangs 18 = .ok (.iconst 1, 1) := nq_d dX2_hangs_0_g (n := 10) rfl
theorem dX2_hangs_19 : decode cX2_hangs 19 = .ok (.goto 4, 3) := nq_d dX2_hangs_0_g (n := 11) rfl
theorem dX2_hangs_22 : decode cX2_hangs 22 = .ok (.iconst 0, 1) := nq_d dX2_hangs_0_g (n := 12) rfl
theorem dX2_hangs_23 : decode cX2_hangs 23 = .ok (.ireturn, 1) := nq_d dX2_hangs_0_g (n := 13) rfl
noncomputable def dX2_ownerOn_0_l : List (Nat × Instr × Nat) := [(0, .iconst 0, 1), (1, .istore_n 2, 1), (2, .iload_n 2, 1), (3, .aload_n 0, 1), (4, .getfield 9, 3), (7, .if_icmp .ge 21, 3), (10, .aload_n 0, 1), (11, .getfield 31, 3), (14, .iload_n 2, 1), (15, .iaload, 1), (16, .iload_n 1, 1), (17, .if_icmp .ne 5, 3), (20, .iload_n 2, 1), (21, .ireturn, 1), (22, .iinc 2 1, 3), (25, .goto (-23), 3), (28, .iconst (-1), 1), (29, .ireturn, 1)]
set_option maxRecDepth 100000 in
theorem dX2_ownerOn_0_g : dX2_ownerOn_0_l.all (fun x => decide (decode cX2_ownerOn x.1 = .ok x.2)) = true := by decide +kernel
theorem dX2_ownerOn_0 : decode cX2_ownerOn 0 = .ok (.iconst 0, 1) := nq_d dX2_ownerOn_0_g (n := 0) rfl
theorem dX2_ownerOn_1 : decode cX2_ownerOn 1 = .ok (.istore_n 2, 1) := nq_d dX2_ownerOn_0_g (n := 1) rfl
theorem dX2_ownerOn_2 : decode cX2_ownerOn 2 = .ok (.iload_n 2, 1) := nq_d dX2_ownerOn_0_g (n := 2) rfl
theorem dX2_ownerOn_3 : decode cX2_ownerOn 3 = .ok (.aload_n 0, 1) := nq_d dX2_ownerOn_0_g (n := 3) rfl
theorem dX2_ownerOn_4 : decode cX2_ownerOn 4 = .ok (.getfield 9, 3) := nq_d dX2_ownerOn_0_g (n := 4) rfl
theorem dX2_ownerOn_7 : decode cX2_ownerOn 7 = .ok (.if_icmp .ge 21, 3) := nq_d dX2_ownerOn_0_g (n := 5) rfl
theorem dX2_ownerOn_10 : decode cX2_ownerOn 10 = .ok (.aload_n 0, 1) := nq_d dX2_ownerOn_0_g (n := 6) rfl
theorem dX2_ownerOn_11 : decode cX2_ownerOn 11 = .ok (.getfield 31, 3) := nq_d dX2_ownerOn_0_g (n := 7) rfl
theorem dX2_ownerOn_14 : decode cX2_ownerOn 14 = .ok (.iload_n 2, 1) := nq_d dX2_ownerOn_0_g (n := 8) rfl
theorem dX2_ownerOn_15 : decode cX2_ownerOn 15 = .ok (.iaload, 1) := nq_d dX2_ownerOn_0_g (n := 9) rfl
theorem dX2_ownerOn_16 : decode cX2_ownerOn 16 = .ok (.iload_n 1, 1) := nq_d dX2_ownerOn_0_g (n := 10) rfl
theorem dX2_ownerOn_17 : decode cX2_ownerOn 17 = .ok (.if_icmp .ne 5, 3) := nq_d dX2_ownerOn_0_g (n := 11) rfl
theorem dX2_ownerOn_20 : decode cX2_ownerOn 20 = .ok (.iload_n 2, 1) := nq_d dX2_ownerOn_0_g (n := 12) rfl
theorem dX2_ownerOn_21 : decode cX2_ownerOn 21 = .ok (.ireturn, 1) := nq_d dX2_ownerOn_0_g (n := 13) rfl
theorem dX2_ownerOn_22 : decode cX2_ownerOn 22 = .ok (.iinc 2 1, 3) := nq_d dX2_ownerOn_0_g (n := 14) rfl
theorem dX2_ownerOn_25 : decode cX2_ownerOn 25 = .ok (.goto (-23), 3) := nq_d dX2_ownerOn_0_g (n := 15) rfl
theorem dX2_ownerOn_28 : decode cX2_ownerOn 28 = .ok (.iconst (-1), 1) := nq_d dX2_ownerOn_0_g (n := 16) rfl
theorem dX2_ownerOn_29 : decode cX2_ownerOn 29 = .ok (.ireturn, 1) := nq_d dX2_ownerOn_0_g (n := 17) rfl
noncomputable def dX2_holderOf_0_l : List (Nat × Instr × Nat) := [(0, .iconst 0, 1), (1, .istore_n 2, 1), (2, .iload_n 2, 1), (3, .aload_n 0, 1), (4, .getfield 9, 3), (7, .if_icmp .ge 21, 3), (10, .aload_n 0, 1), (11, .getfield 34, 3), (14, .iload_n 2, 1), (15, .iaload, 1), (16, .iload_n 1, 1), (17, .if_icmp .ne 5, 3), (20, .iload_n 2, 1), (21, .ireturn, 1), (22, .iinc 2 1, 3), (25, .goto (-23), 3), (28, .iconst (-1), 1), (29, .ireturn, 1)]
set_option maxRecDepth 100000 in
theorem dX2_holderOf_0_g : dX2_holderOf_0_l.all (fun x => decide (decode cX2_holderOf x.1 = .ok x.2)) = true := by decide +kernel
theorem dX2_holderOf_0 : decode cX2_holderOf 0 = .ok (.iconst 0, 1) := nq_d dX2_holderOf_0_g (n := 0) rfl
theorem dX2_holderOf_1 : decode cX2_holderOf 1 = .ok (.istore_n 2, 1) := nq_d dX2_holderOf_0_g (n := 1) rfl
theorem dX2_holderOf_2 : decode cX2_holderOf 2 = .ok (.iload_n 2, 1) := nq_d dX2_holderOf_0_g (n := 2) rfl
theorem dX2_holderOf_3 : decode cX2_holderOf 3 = .ok (.aload_n 0, 1) := nq_d dX2_holderOf_0_g (n := 3) rfl
theorem dX2_holderOf_4 : decode cX2_holderOf 4 = .ok (.getfield 9, 3) := nq_d dX2_holderOf_0_g (n := 4) rfl
theorem dX2_holderOf_7 : decode cX2_holderOf 7 = .ok (.if_icmp .ge 21, 3) := nq_d dX2_holderOf_0_g (n := 5) rfl
theorem dX2_holderOf_10 : decode cX2_holderOf 10 = .ok (.aload_n 0, 1) := nq_d dX2_holderOf_0_g (n := 6) rfl
theorem dX2_holderOf_11 : decode cX2_holderOf 11 = .ok (.getfield 34, 3) := nq_d dX2_holderOf_0_g (n := 7) rfl
theorem dX2_holderOf_14 : decode cX2_holderOf 14 = .ok (.iload_n 2, 1) := nq_d dX2_holderOf_0_g (n := 8) rfl
theorem dX2_holderOf_15 : decode cX2_holderOf 15 = .ok (.iaload, 1) := nq_d dX2_holderOf_0_g (n := 9) rfl
theorem dX2_holderOf_16 : decode cX2_holderOf 16 = .ok (.iload_n 1, 1) := nq_d dX2_holderOf_0_g (n := 10) rfl
theorem dX2_holderOf_17 : decode cX2_holderOf 17 = .ok (.if_icmp .ne 5, 3) := nq_d dX2_holderOf_0_g (n := 11) rfl
theorem dX2_holderOf_20 : decode cX2_holderOf 20 = .ok (.iload_n 2, 1) := nq_d dX2_holderOf_0_g (n := 12) rfl
theorem dX2_holderOf_21 : decode cX2_holderOf 21 = .ok (.ireturn, 1) := nq_d dX2_holderOf_0_g (n := 13) rfl
theorem dX2_holderOf_22 : decode cX2_holderOf 22 = .ok (.iinc 2 1, 3) := nq_d dX2_holderOf_0_g (n := 14) rfl
theorem dX2_holderOf_25 : decode cX2_holderOf 25 = .ok (.goto (-23), 3) := nq_d dX2_holderOf_0_g (n := 15) rfl
theorem dX2_holderOf_28 : decode cX2_holderOf 28 = .ok (.iconst (-1), 1) := nq_d dX2_holderOf_0_g (n := 16) rfl
theorem dX2_holderOf_29 : decode cX2_holderOf 29 = .ok (.ireturn, 1) := nq_d dX2_holderOf_0_g (n := 17) rfl
noncomputable def dX2_brassIsOut_0_l : List (Nat × Instr × Nat) := [(0, .iconst 0, 1), (1, .istore_n 2, 1), (2, .iload_n 2, 1), (3, .aload_n 0, 1), (4, .getfield 9, 3), (7, .if_icmp .ge 21, 3), (10, .aload_n 0, 1), (11, .getfield 28, 3), (14, .iload_n 2, 1), (15, .iaload, 1), (16, .iload_n 1, 1), (17, .if_icmp .ne 5, 3), (20, .iconst 1, 1), (21, .ireturn, 1), (22, .iinc 2 1, 3), (25, .goto (-23), 3), (28, .iconst 0, 1), (29, .ireturn, 1)]
set_option maxRecDepth 100000 in
theorem dX2_brassIsOut_0_g : dX2_brassIsOut_0_l.all (fun x => decide (decode cX2_brassIsOut x.1 = .ok x.2)) = true := by decide +kernel
theorem dX2_brassIsOut_0 : decode cX2_brassIsOut 0 = .ok (.iconst 0, 1) := nq_d dX2_brassIsOut_0_g (n := 0) rfl
theorem dX2_brassIsOut_1 : decode cX2_brassIsOut 1 = .ok (.istore_n 2, 1) := nq_d dX2_brassIsOut_0_g (n := 1) rfl
theorem dX2_brassIsOut_2 : decode cX2_brassIsOut 2 = .ok (.iload_n 2, 1) := nq_d dX2_brassIsOut_0_g (n := 2) rfl
theorem dX2_brassIsOut_3 : decode cX2_brassIsOut 3 = .ok (.aload_n 0, 1) := nq_d dX2_brassIsOut_0_g (n := 3) rfl
theorem dX2_brassIsOut_4 : decode cX2_brassIsOut 4 = .ok (.getfield 9, 3) := nq_d dX2_brassIsOut_0_g (n := 4) rfl
theorem dX2_brassIsOut_7 : decode cX2_brassIsOut 7 = .ok (.if_icmp .ge 21, 3) := nq_d dX2_brassIsOut_0_g (n := 5) rfl
theorem dX2_brassIsOut_10 : decode cX2_brassIsOut 10 = .ok (.aload_n 0, 1) := nq_d dX2_brassIsOut_0_g (n := 6) rfl
theorem dX2_brassIsOut_11 : decode cX2_brassIsOut 11 = .ok (.getfield 28, 3) := nq_d dX2_brassIsOut_0_g (n := 7) rfl
theorem dX2_brassIsOut_14 : decode cX2_brassIsOut 14 = .ok (.iload_n 2, 1) := nq_d dX2_brassIsOut_0_g (n := 8) rfl
theorem dX2_brassIsOut_15 : decode cX2_brassIsOut 15 = .ok (.iaload, 1) := nq_d dX2_brassIsOut_0_g (n := 9) rfl
theorem dX2_brassIsOut_16 : decode cX2_brassIsOut 16 = .ok (.iload_n 1, 1) := nq_d dX2_brassIsOut_0_g (n := 10) rfl
theorem dX2_brassIsOut_17 : decode cX2_brassIsOut 17 = .ok (.if_icmp .ne 5, 3) := nq_d dX2_brassIsOut_0_g (n := 11) rfl
theorem dX2_brassIsOut_20 : decode cX2_brassIsOut 20 = .ok (.iconst 1, 1) := nq_d dX2_brassIsOut_0_g (n := 12) rfl
theorem dX2_brassIsOut_21 : decode cX2_brassIsOut 21 = .ok (.ireturn, 1) := nq_d dX2_brassIsOut_0_g (n := 13) rfl
theorem dX2_brassIsOut_22 : decode cX2_brassIsOut 22 = .ok (.iinc 2 1, 3) := nq_d dX2_brassIsOut_0_g (n := 14) rfl
theorem dX2_brassIsOut_25 : decode cX2_brassIsOut 25 = .ok (.goto (-23), 3) := nq_d dX2_brassIsOut_0_g (n := 15) rfl
theorem dX2_brassIsOut_28 : decode cX2_brassIsOut 28 = .ok (.iconst 0, 1) := nq_d dX2_brassIsOut_0_g (n := 16) rfl
theorem dX2_brassIsOut_29 : decode cX2_brassIsOut 29 = .ok (.ireturn, 1) := nq_d dX2_brassIsOut_0_g (n := 17) rfl
set_option maxRecDepth 100000 in
theorem ggX2_handOver_X2_knows : GoodIn wsX2_handOver wsX2_knows := goodIn_sub (sub_c (nq_m (n := 7) rfl) (sub_c (nq_m (n := 8) rfl) (sub_c (nq_m (n := 9) rfl) (sub_c (nq_m (n := 10) rfl) (sub_c (nq_m (n := 11) rfl) (sub_c (nq_m (n := 12) rfl) (sub_c (nq_m (n := 13) rfl) (sub_c (nq_m (n := 14) rfl) (sub_c (nq_m (n := 15) rfl) (sub_c (nq_m (n := 16) rfl) sub_n)))))))))) (by decide +kernel)
set_option maxRecDepth 100000 in
theorem gX2_handOver_X2_knows : GoodIn wsX2_handOver (wsV RX2 43 RX2 yX2_knows wsX2_knows) := goodIn_app (goodIn_sub (sub_c (nq_m (n := 3) rfl) (sub_c (nq_m (n := 4) rfl) (sub_c (nq_m (n := 5) rfl) (sub_c (nq_m (n := 6) rfl) sub_n)))) (by decide +kernel)) ggX2_handOver_X2_knows
noncomputable def dX2_handOver_0_l : List (Nat × Instr × Nat) := [(0, .aload_n 0, 1), (1, .iload_n 1, 1), (2, .invokevirtual 43, 3), (5, .ifCond .eq 11, 3), (8, .aload_n 0, 1), (9, .iload_n 2, 1), (10, .invokevirtual 43, 3), (13, .ifCond .ne 4, 3), (16, .return_, 1), (17, .aload_n 0, 1), (18, .getfield 31, 3), (21, .iload_n 1, 1), (22, .iconst (-1), 1), (23, .iastore, 1), (24, .aload_n 0, 1), (25, .getfield 34, 3), (28, .iload_n 2, 1), (29, .iload_n 1, 1), (30, .iastore, 1), (31, .return_, 1)]
set_option maxRecDepth 100000 in
theorem dX2_handOver_0_g : dX2_handOver_0_l.all (fun x => decide (decode cX2_handOver x.1 = .ok x.2)) = true := by decide +kernel
theorem dX2_handOver_0 : decode cX2_handOver 0 = .ok (.aload_n 0, 1) := nq_d dX2_handOver_0_g (n := 0) rfl
theorem dX2_handOver_1 : decode cX2_handOver 1 = .ok (.iload_n 1, 1) := nq_d dX2_handOver_0_g (n := 1) rfl
theorem dX2_handOver_2 : decode cX2_handOver 2 = .ok (.invokevirtual 43, 3) := nq_d dX2_handOver_0_g (n := 2) rfl
theorem dX2_handOver_5 : decode cX2_handOver 5 = .ok (.ifCond .eq 11, 3) := nq_d dX2_handOver_0_g (n := 3) rfl
theorem dX2_handOver_8 : decode cX2_handOver 8 = .ok (.aload_n 0, 1) := nq_d dX2_handOver_0_g (n := 4) rfl
theorem dX2_handOver_9 : decode cX2_handOver 9 = .ok (.iload_n 2, 1) := nq_d dX2_handOver_0_g (n := 5) rfl
theorem dX2_handOver_10 : decode cX2_handOver 10 = .ok (.invokevirtual 43, 3) := nq_d dX2_handOver_0_g (n := 6) rfl
theorem dX2_handOver_13 : decode cX2_handOver 13 = .ok (.ifCond .ne 4, 3) := nq_d dX2_handOver_0_g (n := 7) rfl
theorem dX2_handOver_16 : decode cX2_handOver 16 = .ok (.return_, 1) := nq_d dX2_handOver_0_g (n := 8) rfl
theorem dX2_handOver_17 : decode cX2_handOver 17 = .ok (.aload_n 0, 1) := nq_d dX2_handOver_0_g (n := 9) rfl
theorem dX2_handOver_18 : decode cX2_handOver 18 = .ok (.getfield 31, 3) := nq_d dX2_handOver_0_g (n := 10) rfl
theorem dX2_handOver_21 : decode cX2_handOver 21 = .ok (.iload_n 1, 1) := nq_d dX2_handOver_0_g (n := 11) rfl
theorem dX2_handOver_22 : decode cX2_handOver 22 = .ok (.iconst (-1), 1) := nq_d dX2_handOver_0_g (n := 12) rfl
theorem dX2_handOver_23 : decode cX2_handOver 23 = .ok (.iastore, 1) := nq_d dX2_handOver_0_g (n := 13) rfl
theorem dX2_handOver_24 : decode cX2_handOver 24 = .ok (.aload_n 0, 1) := nq_d dX2_handOver_0_g (n := 14) rfl
theorem dX2_handOver_25 : decode cX2_handOver 25 = .ok (.getfield 34, 3) := nq_d dX2_handOver_0_g (n := 15) rfl
theorem dX2_handOver_28 : decode cX2_handOver 28 = .ok (.iload_n 2, 1) := nq_d dX2_handOver_0_g (n := 16) rfl
theorem dX2_handOver_29 : decode cX2_handOver 29 = .ok (.iload_n 1, 1) := nq_d dX2_handOver_0_g (n := 17) rfl
theorem dX2_handOver_30 : decode cX2_handOver 30 = .ok (.iastore, 1) := nq_d dX2_handOver_0_g (n := 18) rfl
theorem dX2_handOver_31 : decode cX2_handOver 31 = .ok (.return_, 1) := nq_d dX2_handOver_0_g (n := 19) rfl
set_option maxRecDepth 100000 in
theorem ggX2_isAstray_X2_knows : GoodIn wsX2_isAstray wsX2_knows := goodIn_sub (sub_c (nq_m (n := 6) rfl) (sub_c (nq_m (n := 7) rfl) (sub_c (nq_m (n := 8) rfl) (sub_c (nq_m (n := 9) rfl) (sub_c (nq_m (n := 10) rfl) (sub_c (nq_m (n := 11) rfl) (sub_c (nq_m (n := 12) rfl) (sub_c (nq_m (n := 13) rfl) (sub_c (nq_m (n := 14) rfl) (sub_c (nq_m (n := 15) rfl) sub_n)))))))))) (by decide +kernel)
set_option maxRecDepth 100000 in
theorem gX2_isAstray_X2_knows : GoodIn wsX2_isAstray (wsV RX2 43 RX2 yX2_knows wsX2_knows) := goodIn_app (goodIn_sub (sub_c (nq_m (n := 2) rfl) (sub_c (nq_m (n := 3) rfl) (sub_c (nq_m (n := 4) rfl) (sub_c (nq_m (n := 5) rfl) sub_n)))) (by decide +kernel)) ggX2_isAstray_X2_knows
noncomputable def dX2_isAstray_0_l : List (Nat × Instr × Nat) := [(0, .aload_n 0, 1), (1, .iload_n 1, 1), (2, .invokevirtual 43, 3), (5, .ifCond .eq 27, 3), (8, .aload_n 0, 1), (9, .getfield 34, 3), (12, .iload_n 1, 1), (13, .iaload, 1), (14, .iconst (-1), 1), (15, .if_icmp .eq 17, 3), (18, .aload_n 0, 1), (19, .getfield 34, 3), (22, .iload_n 1, 1), (23, .iaload, 1), (24, .iload_n 1, 1), (25, .if_icmp .eq 7, 3), (28, .iconst 1, 1), (29, .goto 4, 3), (32, .iconst 0, 1), (33, .ireturn, 1)]
set_option maxRecDepth 100000 in
theorem dX2_isAstray_0_g : dX2_isAstray_0_l.all (fun x => decide (decode cX2_isAstray x.1 = .ok x.2)) = true := by decide +kernel
theorem dX2_isAstray_0 : decode cX2_isAstray 0 = .ok (.aload_n 0, 1) := nq_d dX2_isAstray_0_g (n := 0) rfl
theorem dX2_isAstray_1 : decode cX2_isAstray 1 = .ok (.iload_n 1, 1) := nq_d dX2_isAstray_0_g (n := 1) rfl
theorem dX2_isAstray_2 : decode cX2_isAstray 2 = .ok (.invokevirtual 43, 3) := nq_d dX2_isAstray_0_g (n := 2) rfl
theorem dX2_isAstray_5 : decode cX2_isAstray 5 = .ok (.ifCond .eq 27, 3) := nq_d dX2_isAstray_0_g (n := 3) rfl
theorem dX2_isAstray_8 : decode cX2_isAstray 8 = .ok (.aload_n 0, 1) := nq_d dX2_isAstray_0_g (n := 4) rfl
theorem dX2_isAstray_9 : decode cX2_isAstray 9 = .ok (.getfield 34, 3) := nq_d dX2_isAstray_0_g (n := 5) rfl
theorem dX2_isAstray_12 : decode cX2_isAstray 12 = .ok (.iload_n 1, 1) := nq_d dX2_isAstray_0_g (n := 6) rfl
theorem dX2_isAstray_13 : decode cX2_isAstray 13 = .ok (.iaload, 1) := nq_d dX2_isAstray_0_g (n := 7) rfl
theorem dX2_isAstray_14 : decode cX2_isAstray 14 = .ok (.iconst (-1), 1) := nq_d dX2_isAstray_0_g (n := 8) rfl
theorem dX2_isAstray_15 : decode cX2_isAstray 15 = .ok (.if_icmp .eq 17, 3) := nq_d dX2_isAstray_0_g (n := 9) rfl
theorem dX2_isAstray_18 : decode cX2_isAstray 18 = .ok (.aload_n 0, 1) := nq_d dX2_isAstray_0_g (n := 10) rfl
theorem dX2_isAstray_19 : decode cX2_isAstray 19 = .ok (.getfield 34, 3) := nq_d dX2_isAstray_0_g (n := 11) rfl
theorem dX2_isAstray_22 : decode cX2_isAstray 22 = .ok (.iload_n 1, 1) := nq_d dX2_isAstray_0_g (n := 12) rfl
theorem dX2_isAstray_23 : decode cX2_isAstray 23 = .ok (.iaload, 1) := nq_d dX2_isAstray_0_g (n := 13) rfl
theorem dX2_isAstray_24 : decode cX2_isAstray 24 = .ok (.iload_n 1, 1) := nq_d dX2_isAstray_0_g (n := 14) rfl
theorem dX2_isAstray_25 : decode cX2_isAstray 25 = .ok (.if_icmp .eq 7, 3) := nq_d dX2_isAstray_0_g (n := 15) rfl
theorem dX2_isAstray_28 : decode cX2_isAstray 28 = .ok (.iconst 1, 1) := nq_d dX2_isAstray_0_g (n := 16) rfl
theorem dX2_isAstray_29 : decode cX2_isAstray 29 = .ok (.goto 4, 3) := nq_d dX2_isAstray_0_g (n := 17) rfl
theorem dX2_isAstray_32 : decode cX2_isAstray 32 = .ok (.iconst 0, 1) := nq_d dX2_isAstray_0_g (n := 18) rfl
theorem dX2_isAstray_33 : decode cX2_isAstray 33 = .ok (.ireturn, 1) := nq_d dX2_isAstray_0_g (n := 19) rfl
set_option maxRecDepth 100000 in
theorem ggX2_nextInChain_X2_knows : GoodIn wsX2_nextInChain wsX2_knows := goodIn_sub (sub_c (nq_m (n := 6) rfl) (sub_c (nq_m (n := 7) rfl) (sub_c (nq_m (n := 8) rfl) (sub_c (nq_m (n := 9) rfl) (sub_c (nq_m (n := 10) rfl) (sub_c (nq_m (n := 11) rfl) (sub_c (nq_m (n := 12) rfl) (sub_c (nq_m (n := 13) rfl) (sub_c (nq_m (n := 14) rfl) (sub_c (nq_m (n := 15) rfl) sub_n)))))))))) (by decide +kernel)
set_option maxRecDepth 100000 in
theorem gX2_nextInChain_X2_knows : GoodIn wsX2_nextInChain (wsV RX2 43 RX2 yX2_knows wsX2_knows) := goodIn_app (goodIn_sub (sub_c (nq_m (n := 2) rfl) (sub_c (nq_m (n := 3) rfl) (sub_c (nq_m (n := 4) rfl) (sub_c (nq_m (n := 5) rfl) sub_n)))) (by decide +kernel)) ggX2_nextInChain_X2_knows
noncomputable def dX2_nextInChain_0_l : List (Nat × Instr × Nat) := [(0, .aload_n 0, 1), (1, .iload_n 2, 1), (2, .invokevirtual 43, 3), (5, .ifCond .eq 22, 3), (8, .aload_n 0, 1), (9, .getfield 34, 3), (12, .iload_n 2, 1), (13, .iaload, 1), (14, .iload_n 1, 1), (15, .if_icmp .eq 12, 3), (18, .aload_n 0, 1), (19, .getfield 34, 3), (22, .iload_n 2, 1), (23, .iaload, 1), (24, .goto 4, 3), (27, .iconst (-1), 1), (28, .ireturn, 1)]
set_option maxRecDepth 100000 in
theorem dX2_nextInChain_0_g : dX2_nextInChain_0_l.all (fun x => decide (decode cX2_nextInChain x.1 = .ok x.2)) = true := by decide +kernel
theorem dX2_nextInChain_0 : decode cX2_nextInChain 0 = .ok (.aload_n 0, 1) := nq_d dX2_nextInChain_0_g (n := 0) rfl
theorem dX2_nextInChain_1 : decode cX2_nextInChain 1 = .ok (.iload_n 2, 1) := nq_d dX2_nextInChain_0_g (n := 1) rfl
theorem dX2_nextInChain_2 : decode cX2_nextInChain 2 = .ok (.invokevirtual 43, 3) := nq_d dX2_nextInChain_0_g (n := 2) rfl
theorem dX2_nextInChain_5 : decode cX2_nextInChain 5 = .ok (.ifCond .eq 22, 3) := nq_d dX2_nextInChain_0_g (n := 3) rfl
theorem dX2_nextInChain_8 : decode cX2_nextInChain 8 = .ok (.aload_n 0, 1) := nq_d dX2_nextInChain_0_g (n := 4) rfl
theorem dX2_nextInChain_9 : decode cX2_nextInChain 9 = .ok (.getfield 34, 3) := nq_d dX2_nextInChain_0_g (n := 5) rfl
theorem dX2_nextInChain_12 : decode cX2_nextInChain 12 = .ok (.iload_n 2, 1) := nq_d dX2_nextInChain_0_g (n := 6) rfl
theorem dX2_nextInChain_13 : decode cX2_nextInChain 13 = .ok (.iaload, 1) := nq_d dX2_nextInChain_0_g (n := 7) rfl
theorem dX2_nextInChain_14 : decode cX2_nextInChain 14 = .ok (.iload_n 1, 1) := nq_d dX2_nextInChain_0_g (n := 8) rfl
theorem dX2_nextInChain_15 : decode cX2_nextInChain 15 = .ok (.if_icmp .eq 12, 3) := nq_d dX2_nextInChain_0_g (n := 9) rfl
theorem dX2_nextInChain_18 : decode cX2_nextInChain 18 = .ok (.aload_n 0, 1) := nq_d dX2_nextInChain_0_g (n := 10) rfl
theorem dX2_nextInChain_19 : decode cX2_nextInChain 19 = .ok (.getfield 34, 3) := nq_d dX2_nextInChain_0_g (n := 11) rfl
theorem dX2_nextInChain_22 : decode cX2_nextInChain 22 = .ok (.iload_n 2, 1) := nq_d dX2_nextInChain_0_g (n := 12) rfl
theorem dX2_nextInChain_23 : decode cX2_nextInChain 23 = .ok (.iaload, 1) := nq_d dX2_nextInChain_0_g (n := 13) rfl
theorem dX2_nextInChain_24 : decode cX2_nextInChain 24 = .ok (.goto 4, 3) := nq_d dX2_nextInChain_0_g (n := 14) rfl
theorem dX2_nextInChain_27 : decode cX2_nextInChain 27 = .ok (.iconst (-1), 1) := nq_d dX2_nextInChain_0_g (n := 15) rfl
theorem dX2_nextInChain_28 : decode cX2_nextInChain 28 = .ok (.ireturn, 1) := nq_d dX2_nextInChain_0_g (n := 16) rfl
set_option maxRecDepth 100000 in
theorem ggX2_chainLength_X2_nextInChain : GoodIn wsX2_chainLength wsX2_nextInChain := goodIn_sub (sub_c (nq_m (n := 5) rfl) (sub_c (nq_m (n := 6) rfl) (sub_c (nq_m (n := 7) rfl) (sub_c (nq_m (n := 8) rfl) (sub_c (nq_m (n := 9) rfl) (sub_c (nq_m (n := 4) rfl) (sub_c (nq_m (n := 10) rfl) (sub_c (nq_m (n := 11) rfl) (sub_c (nq_m (n := 12) rfl) (sub_c (nq_m (n := 13) rfl) (sub_c (nq_m (n := 14) rfl) (sub_c (nq_m (n := 15) rfl) (sub_c (nq_m (n := 16) rfl) (sub_c (nq_m (n := 17) rfl) (sub_c (nq_m (n := 18) rfl) (sub_c (nq_m (n := 19) rfl) sub_n)))))))))))))))) (by decide +kernel)
set_option maxRecDepth 100000 in
theorem gX2_chainLength_X2_nextInChain : GoodIn wsX2_chainLength (wsV RX2 47 RX2 yX2_nextInChain wsX2_nextInChain) := goodIn_app (goodIn_sub (sub_c (nq_m (n := 1) rfl) (sub_c (nq_m (n := 2) rfl) (sub_c (nq_m (n := 3) rfl) (sub_c (nq_m (n := 4) rfl) sub_n)))) (by decide +kernel)) ggX2_chainLength_X2_nextInChain
noncomputable def dX2_chainLength_0_l : List (Nat × Instr × Nat) := [(0, .iload_n 1, 1), (1, .istore_n 2, 1), (2, .iconst 0, 1), (3, .istore_n 3, 1), (4, .iload_n 2, 1), (5, .iconst (-1), 1), (6, .if_icmp .eq 22, 3), (9, .iload_n 3, 1), (10, .bipush 16, 2), (12, .if_icmp .ge 16, 3), (15, .aload_n 0, 1), (16, .iload_n 1, 1), (17, .iload_n 2, 1), (18, .invokevirtual 47, 3), (21, .istore_n 2, 1), (22, .iinc 3 1, 3), (25, .goto (-21), 3), (28, .iload_n 3, 1), (29, .ireturn, 1)]
set_option maxRecDepth 100000 in
theorem dX2_chainLength_0_g : dX2_chainLength_0_l.all (fun x => decide (decode cX2_chainLength x.1 = .ok x.2)) = true := by decide +kernel
theorem dX2_chainLength_0 : decode cX2_chainLength 0 = .ok (.iload_n 1, 1) := nq_d dX2_chainLength_0_g (n := 0) rfl
theorem dX2_chainLength_1 : decode cX2_chainLength 1 = .ok (.istore_n 2, 1) := nq_d dX2_chainLength_0_g (n := 1) rfl
theorem dX2_chainLength_2 : decode cX2_chainLength 2 = .ok (.iconst 0, 1) := nq_d dX2_chainLength_0_g (n := 2) rfl
theorem dX2_chainLength_3 : decode cX2_chainLength 3 = .ok (.istore_n 3, 1) := nq_d dX2_chainLength_0_g (n := 3) rfl
theorem dX2_chainLength_4 : decode cX2_chainLength 4 = .ok (.iload_n 2, 1) := nq_d dX2_chainLength_0_g (n := 4) rfl
theorem dX2_chainLength_5 : decode cX2_chainLength 5 = .ok (.iconst (-1), 1) := nq_d dX2_chainLength_0_g (n := 5) rfl
theorem dX2_chainLength_6 : decode cX2_chainLength 6 = .ok (.if_icmp .eq 22, 3) := nq_d dX2_chainLength_0_g (n := 6) rfl
theorem dX2_chainLength_9 : decode cX2_chainLength 9 = .ok (.iload_n 3, 1) := nq_d dX2_chainLength_0_g (n := 7) rfl
theorem dX2_chainLength_10 : decode cX2_chainLength 10 = .ok (.bipush 16, 2) := nq_d dX2_chainLength_0_g (n := 8) rfl
theorem dX2_chainLength_12 : decode cX2_chainLength 12 = .ok (.if_icmp .ge 16, 3) := nq_d dX2_chainLength_0_g (n := 9) rfl
theorem dX2_chainLength_15 : decode cX2_chainLength 15 = .ok (.aload_n 0, 1) := nq_d dX2_chainLength_0_g (n := 10) rfl
theorem dX2_chainLength_16 : decode cX2_chainLength 16 = .ok (.iload_n 1, 1) := nq_d dX2_chainLength_0_g (n := 11) rfl
theorem dX2_chainLength_17 : decode cX2_chainLength 17 = .ok (.iload_n 2, 1) := nq_d dX2_chainLength_0_g (n := 12) rfl
theorem dX2_chainLength_18 : decode cX2_chainLength 18 = .ok (.invokevirtual 47, 3) := nq_d dX2_chainLength_0_g (n := 13) rfl
theorem dX2_chainLength_21 : decode cX2_chainLength 21 = .ok (.istore_n 2, 1) := nq_d dX2_chainLength_0_g (n := 14) rfl
theorem dX2_chainLength_22 : decode cX2_chainLength 22 = .ok (.iinc 3 1, 3) := nq_d dX2_chainLength_0_g (n := 15) rfl
theorem dX2_chainLength_25 : decode cX2_chainLength 25 = .ok (.goto (-21), 3) := nq_d dX2_chainLength_0_g (n := 16) rfl
theorem dX2_chainLength_28 : decode cX2_chainLength 28 = .ok (.iload_n 3, 1) := nq_d dX2_chainLength_0_g (n := 17) rfl
theorem dX2_chainLength_29 : decode cX2_chainLength 29 = .ok (.ireturn, 1) := nq_d dX2_chainLength_0_g (n := 18) rfl
set_option maxRecDepth 100000 in
theorem ggX2_chainMember_X2_nextInChain : GoodIn wsX2_chainMember wsX2_nextInChain := goodIn_sub (sub_c (nq_m (n := 5) rfl) (sub_c (nq_m (n := 6) rfl) (sub_c (nq_m (n := 7) rfl) (sub_c (nq_m (n := 8) rfl) (sub_c (nq_m (n := 9) rfl) (sub_c (nq_m (n := 4) rfl) (sub_c (nq_m (n := 10) rfl) (sub_c (nq_m (n := 11) rfl) (sub_c (nq_m (n := 12) rfl) (sub_c (nq_m (n := 13) rfl) (sub_c (nq_m (n := 14) rfl) (sub_c (nq_m (n := 15) rfl) (sub_c (nq_m (n := 16) rfl) (sub_c (nq_m (n := 17) rfl) (sub_c (nq_m (n := 18) rfl) (sub_c (nq_m (n := 19) rfl) sub_n)))))))))))))))) (by decide +kernel)
set_option maxRecDepth 100000 in
theorem gX2_chainMember_X2_nextInChain : GoodIn wsX2_chainMember (wsV RX2 47 RX2 yX2_nextInChain wsX2_nextInChain) := goodIn_app (goodIn_sub (sub_c (nq_m (n := 1) rfl) (sub_c (nq_m (n := 2) rfl) (sub_c (nq_m (n := 3) rfl) (sub_c (nq_m (n := 4) rfl) sub_n)))) (by decide +kernel)) ggX2_chainMember_X2_nextInChain
noncomputable def dX2_chainMember_0_l : List (Nat × Instr × Nat) := [(0, .iload_n 2, 1), (1, .ifCond .ge 5, 3), (4, .iconst (-1), 1), (5, .ireturn, 1), (6, .iload_n 1, 1), (7, .istore_n 3, 1), (8, .iconst 0, 1), (9, .istore 4, 2), (11, .iload 4, 2), (13, .iload_n 2, 1), (14, .if_icmp .ge 21, 3), (17, .iload_n 3, 1), (18, .iconst (-1), 1), (19, .if_icmp .eq 16, 3), (22, .aload_n 0, 1), (23, .iload_n 1, 1), (24, .iload_n 3, 1), (25, .invokevirtual 47, 3), (28, .istore_n 3, 1), (29, .iinc 4 1, 3), (32, .goto (-21), 3), (35, .iload_n 3, 1), (36, .ireturn, 1)]
set_option maxRecDepth 100000 in
theorem dX2_chainMember_0_g : dX2_chainMember_0_l.all (fun x => decide (decode cX2_chainMember x.1 = .ok x.2)) = true := by decide +kernel
theorem dX2_chainMember_0 : decode cX2_chainMember 0 = .ok (.iload_n 2, 1) := nq_d dX2_chainMember_0_g (n := 0) rfl
theorem dX2_chainMember_1 : decode cX2_chainMember 1 = .ok (.ifCond .ge 5, 3) := nq_d dX2_chainMember_0_g (n := 1) rfl
theorem dX2_chainMember_4 : decode cX2_chainMember 4 = .ok (.iconst (-1), 1) := nq_d dX2_chainMember_0_g (n := 2) rfl
theorem dX2_chainMember_5 : decode cX2_chainMember 5 = .ok (.ireturn, 1) := nq_d dX2_chainMember_0_g (n := 3) rfl
theorem dX2_chainMember_6 : decode cX2_chainMember 6 = .ok (.iload_n 1, 1) := nq_d dX2_chainMember_0_g (n := 4) rfl
theorem dX2_chainMember_7 : decode cX2_chainMember 7 = .ok (.istore_n 3, 1) := nq_d dX2_chainMember_0_g (n := 5) rfl
theorem dX2_chainMember_8 : decode cX2_chainMember 8 = .ok (.iconst 0, 1) := nq_d dX2_chainMember_0_g (n := 6) rfl
theorem dX2_chainMember_9 : decode cX2_chainMember 9 = .ok (.istore 4, 2) := nq_d dX2_chainMember_0_g (n := 7) rfl
theorem dX2_chainMember_11 : decode cX2_chainMember 11 = .ok (.iload 4, 2) := nq_d dX2_chainMember_0_g (n := 8) rfl
theorem dX2_chainMember_13 : decode cX2_chainMember 13 = .ok (.iload_n 2, 1) := nq_d dX2_chainMember_0_g (n := 9) rfl
theorem dX2_chainMember_14 : decode cX2_chainMember 14 = .ok (.if_icmp .ge 21, 3) := nq_d dX2_chainMember_0_g (n := 10) rfl
theorem dX2_chainMember_17 : decode cX2_chainMember 17 = .ok (.iload_n 3, 1) := nq_d dX2_chainMember_0_g (n := 11) rfl
theorem dX2_chainMember_18 : decode cX2_chainMember 18 = .ok (.iconst (-1), 1) := nq_d dX2_chainMember_0_g (n := 12) rfl
theorem dX2_chainMember_19 : decode cX2_chainMember 19 = .ok (.if_icmp .eq 16, 3) := nq_d dX2_chainMember_0_g (n := 13) rfl
theorem dX2_chainMember_22 : decode cX2_chainMember 22 = .ok (.aload_n 0, 1) := nq_d dX2_chainMember_0_g (n := 14) rfl
theorem dX2_chainMember_23 : decode cX2_chainMember 23 = .ok (.iload_n 1, 1) := nq_d dX2_chainMember_0_g (n := 15) rfl
theorem dX2_chainMember_24 : decode cX2_chainMember 24 = .ok (.iload_n 3, 1) := nq_d dX2_chainMember_0_g (n := 16) rfl
theorem dX2_chainMember_25 : decode cX2_chainMember 25 = .ok (.invokevirtual 47, 3) := nq_d dX2_chainMember_0_g (n := 17) rfl
theorem dX2_chainMember_28 : decode cX2_chainMember 28 = .ok (.istore_n 3, 1) := nq_d dX2_chainMember_0_g (n := 18) rfl
theorem dX2_chainMember_29 : decode cX2_chainMember 29 = .ok (.iinc 4 1, 3) := nq_d dX2_chainMember_0_g (n := 19) rfl
theorem dX2_chainMember_32 : decode cX2_chainMember 32 = .ok (.goto (-21), 3) := nq_d dX2_chainMember_0_g (n := 20) rfl
theorem dX2_chainMember_35 : decode cX2_chainMember 35 = .ok (.iload_n 3, 1) := nq_d dX2_chainMember_0_g (n := 21) rfl
theorem dX2_chainMember_36 : decode cX2_chainMember 36 = .ok (.ireturn, 1) := nq_d dX2_chainMember_0_g (n := 22) rfl
set_option maxRecDepth 100000 in
theorem ggX2_comesRound_X2_chainLength : GoodIn wsX2_comesRound wsX2_chainLength := goodIn_sub (sub_c (nq_m (n := 6) rfl) (sub_c (nq_m (n := 7) rfl) (sub_c (nq_m (n := 8) rfl) (sub_c (nq_m (n := 9) rfl) (sub_c (nq_m (n := 5) rfl) (sub_c (nq_m (n := 10) rfl) (sub_c (nq_m (n := 1) rfl) (sub_c (nq_m (n := 11) rfl) (sub_c (nq_m (n := 12) rfl) (sub_c (nq_m (n := 13) rfl) (sub_c (nq_m (n := 14) rfl) (sub_c (nq_m (n := 15) rfl) (sub_c (nq_m (n := 20) rfl) (sub_c (nq_m (n := 21) rfl) (sub_c (nq_m (n := 22) rfl) (sub_c (nq_m (n := 23) rfl) (sub_c (nq_m (n := 24) rfl) (sub_c (nq_m (n := 25) rfl) (sub_c (nq_m (n := 26) rfl) (sub_c (nq_m (n := 27) rfl) sub_n)))))))))))))))))))) (by decide +kernel)
set_option maxRecDepth 100000 in
theorem gX2_comesRound_X2_chainLength : GoodIn wsX2_comesRound (wsV RX2 51 RX2 yX2_chainLength wsX2_chainLength) := goodIn_app (goodIn_sub (sub_c (nq_m (n := 2) rfl) (sub_c (nq_m (n := 3) rfl) (sub_c (nq_m (n := 4) rfl) (sub_c (nq_m (n := 5) rfl) sub_n)))) (by decide +kernel)) ggX2_comesRound_X2_chainLength
set_option maxRecDepth 100000 in
theorem ggX2_comesRound_X2_chainMember : GoodIn wsX2_comesRound wsX2_chainMember := goodIn_sub (sub_c (nq_m (n := 19) rfl) (sub_c (nq_m (n := 7) rfl) (sub_c (nq_m (n := 8) rfl) (sub_c (nq_m (n := 9) rfl) (sub_c (nq_m (n := 5) rfl) (sub_c (nq_m (n := 10) rfl) (sub_c (nq_m (n := 1) rfl) (sub_c (nq_m (n := 11) rfl) (sub_c (nq_m (n := 12) rfl) (sub_c (nq_m (n := 13) rfl) (sub_c (nq_m (n := 14) rfl) (sub_c (nq_m (n := 15) rfl) (sub_c (nq_m (n := 20) rfl) (sub_c (nq_m (n := 21) rfl) (sub_c (nq_m (n := 22) rfl) (sub_c (nq_m (n := 23) rfl) (sub_c (nq_m (n := 24) rfl) (sub_c (nq_m (n := 25) rfl) (sub_c (nq_m (n := 26) rfl) (sub_c (nq_m (n := 27) rfl) sub_n)))))))))))))))))))) (by decide +kernel)
set_option maxRecDepth 100000 in
theorem gX2_comesRound_X2_chainMember : GoodIn wsX2_comesRound (wsV RX2 55 RX2 yX2_chainMember wsX2_chainMember) := goodIn_app (goodIn_sub (sub_c (nq_m (n := 16) rfl) (sub_c (nq_m (n := 17) rfl) (sub_c (nq_m (n := 18) rfl) (sub_c (nq_m (n := 5) rfl) sub_n)))) (by decide +kernel)) ggX2_comesRound_X2_chainMember
set_option maxRecDepth 100000 in
theorem ggX2_comesRound_X2_knows : GoodIn wsX2_comesRound wsX2_knows := goodIn_sub (sub_c (nq_m (n := 14) rfl) (sub_c (nq_m (n := 15) rfl) (sub_c (nq_m (n := 20) rfl) (sub_c (nq_m (n := 21) rfl) (sub_c (nq_m (n := 22) rfl) (sub_c (nq_m (n := 23) rfl) (sub_c (nq_m (n := 24) rfl) (sub_c (nq_m (n := 25) rfl) (sub_c (nq_m (n := 26) rfl) (sub_c (nq_m (n := 27) rfl) sub_n)))))))))) (by decide +kernel)
set_option maxRecDepth 100000 in
theorem gX2_comesRound_X2_knows : GoodIn wsX2_comesRound (wsV RX2 43 RX2 yX2_knows wsX2_knows) := goodIn_app (goodIn_sub (sub_c (nq_m (n := 11) rfl) (sub_c (nq_m (n := 12) rfl) (sub_c (nq_m (n := 13) rfl) (sub_c (nq_m (n := 5) rfl) sub_n)))) (by decide +kernel)) ggX2_comesRound_X2_knows
noncomputable def dX2_comesRound_0_l : List (Nat × Instr × Nat) := [(0, .aload_n 0, 1), (1, .iload_n 1, 1), (2, .aload_n 0, 1), (3, .iload_n 1, 1), (4, .invokevirtual 51, 3), (7, .iconst 1, 1), (8, .isub, 1), (9, .invokevirtual 55, 3), (12, .istore_n 2, 1), (13, .aload_n 0, 1), (14, .iload_n 2, 1), (15, .invokevirtual 43, 3), (18, .ifCond .eq 17, 3), (21, .aload_n 0, 1), (22, .getfield 34, 3), (25, .iload_n 2, 1), (26, .iaload, 1), (27, .iload_n 1, 1), (28, .if_icmp .ne 7, 3), (31, .iconst 1, 1), (32, .goto 4, 3), (35, .iconst 0, 1), (36, .ireturn, 1)]
set_option maxRecDepth 100000 in
theorem dX2_comesRound_0_g : dX2_comesRound_0_l.all (fun x => decide (decode cX2_comesRound x.1 = .ok x.2)) = true := by decide +kernel
theorem dX2_comesRound_0 : decode cX2_comesRound 0 = .ok (.aload_n 0, 1) := nq_d dX2_comesRound_0_g (n := 0) rfl
theorem dX2_comesRound_1 : decode cX2_comesRound 1 = .ok (.iload_n 1, 1) := nq_d dX2_comesRound_0_g (n := 1) rfl
theorem dX2_comesRound_2 : decode cX2_comesRound 2 = .ok (.aload_n 0, 1) := nq_d dX2_comesRound_0_g (n := 2) rfl
theorem dX2_comesRound_3 : decode cX2_comesRound 3 = .ok (.iload_n 1, 1) := nq_d dX2_comesRound_0_g (n := 3) rfl
theorem dX2_comesRound_4 : decode cX2_comesRound 4 = .ok (.invokevirtual 51, 3) := nq_d dX2_comesRound_0_g (n := 4) rfl
theorem dX2_comesRound_7 : decode cX2_comesRound 7 = .ok (.iconst 1, 1) := nq_d dX2_comesRound_0_g (n := 5) rfl
theorem dX2_comesRound_8 : decode cX2_comesRound 8 = .ok (.isub, 1) := nq_d dX2_comesRound_0_g (n := 6) rfl
theorem dX2_comesRound_9 : decode cX2_comesRound 9 = .ok (.invokevirtual 55, 3) := nq_d dX2_comesRound_0_g (n := 7) rfl
theorem dX2_comesRound_12 : decode cX2_comesRound 12 = .ok (.istore_n 2, 1) := nq_d dX2_comesRound_0_g (n := 8) rfl
theorem dX2_comesRound_13 : decode cX2_comesRound 13 = .ok (.aload_n 0, 1) := nq_d dX2_comesRound_0_g (n := 9) rfl
theorem dX2_comesRound_14 : decode cX2_comesRound 14 = .ok (.iload_n 2, 1) := nq_d dX2_comesRound_0_g (n := 10) rfl
theorem dX2_comesRound_15 : decode cX2_comesRound 15 = .ok (.invokevirtual 43, 3) := nq_d dX2_comesRound_0_g (n := 11) rfl
theorem dX2_comesRound_18 : decode cX2_comesRound 18 = .ok (.ifCond .eq 17, 3) := nq_d dX2_comesRound_0_g (n := 12) rfl
theorem dX2_comesRound_21 : decode cX2_comesRound 21 = .ok (.aload_n 0, 1) := nq_d dX2_comesRound_0_g (n := 13) rfl
theorem dX2_comesRound_22 : decode cX2_comesRound 22 = .ok (.getfield 34, 3) := nq_d dX2_comesRound_0_g (n := 14) rfl
theorem dX2_comesRound_25 : decode cX2_comesRound 25 = .ok (.iload_n 2, 1) := nq_d dX2_comesRound_0_g (n := 15) rfl
theorem dX2_comesRound_26 : decode cX2_comesRound 26 = .ok (.iaload, 1) := nq_d dX2_comesRound_0_g (n := 16) rfl
theorem dX2_comesRound_27 : decode cX2_comesRound 27 = .ok (.iload_n 1, 1) := nq_d dX2_comesRound_0_g (n := 17) rfl
theorem dX2_comesRound_28 : decode cX2_comesRound 28 = .ok (.if_icmp .ne 7, 3) := nq_d dX2_comesRound_0_g (n := 18) rfl
theorem dX2_comesRound_31 : decode cX2_comesRound 31 = .ok (.iconst 1, 1) := nq_d dX2_comesRound_0_g (n := 19) rfl
theorem dX2_comesRound_32 : decode cX2_comesRound 32 = .ok (.goto 4, 3) := nq_d dX2_comesRound_0_g (n := 20) rfl
theorem dX2_comesRound_35 : decode cX2_comesRound 35 = .ok (.iconst 0, 1) := nq_d dX2_comesRound_0_g (n := 21) rfl
theorem dX2_comesRound_36 : decode cX2_comesRound 36 = .ok (.ireturn, 1) := nq_d dX2_comesRound_0_g (n := 22) rfl
set_option maxRecDepth 100000 in
theorem ggX2_isLeastOfRing_X2_isAstray : GoodIn wsX2_isLeastOfRing wsX2_isAstray := goodIn_sub (sub_c (nq_m (n := 5) rfl) (sub_c (nq_m (n := 6) rfl) (sub_c (nq_m (n := 7) rfl) (sub_c (nq_m (n := 8) rfl) (sub_c (nq_m (n := 9) rfl) (sub_c (nq_m (n := 4) rfl) (sub_c (nq_m (n := 10) rfl) (sub_c (nq_m (n := 11) rfl) (sub_c (nq_m (n := 28) rfl) (sub_c (nq_m (n := 29) rfl) (sub_c (nq_m (n := 30) rfl) (sub_c (nq_m (n := 31) rfl) (sub_c (nq_m (n := 32) rfl) (sub_c (nq_m (n := 33) rfl) (sub_c (nq_m (n := 34) rfl) (sub_c (nq_m (n := 35) rfl) sub_n)))))))))))))))) (by decide +kernel)
set_option maxRecDepth 100000 in
theorem gX2_isLeastOfRing_X2_isAstray : GoodIn wsX2_isLeastOfRing (wsV RX2 58 RX2 yX2_isAstray wsX2_isAstray) := goodIn_app (goodIn_sub (sub_c (nq_m (n := 1) rfl) (sub_c (nq_m (n := 2) rfl) (sub_c (nq_m (n := 3) rfl) (sub_c (nq_m (n := 4) rfl) sub_n)))) (by decide +kernel)) ggX2_isLeastOfRing_X2_isAstray
set_option maxRecDepth 100000 in
theorem ggX2_isLeastOfRing_X2_comesRound : GoodIn wsX2_isLeastOfRing wsX2_comesRound := goodIn_sub (sub_c (nq_m (n := 15) rfl) (sub_c (nq_m (n := 6) rfl) (sub_c (nq_m (n := 16) rfl) (sub_c (nq_m (n := 17) rfl) (sub_c (nq_m (n := 18) rfl) (sub_c (nq_m (n := 4) rfl) (sub_c (nq_m (n := 19) rfl) (sub_c (nq_m (n := 20) rfl) (sub_c (nq_m (n := 21) rfl) (sub_c (nq_m (n := 22) rfl) (sub_c (nq_m (n := 23) rfl) (sub_c (nq_m (n := 7) rfl) (sub_c (nq_m (n := 8) rfl) (sub_c (nq_m (n := 9) rfl) (sub_c (nq_m (n := 10) rfl) (sub_c (nq_m (n := 11) rfl) (sub_c (nq_m (n := 24) rfl) (sub_c (nq_m (n := 25) rfl) (sub_c (nq_m (n := 26) rfl) (sub_c (nq_m (n := 27) rfl) (sub_c (nq_m (n := 28) rfl) (sub_c (nq_m (n := 29) rfl) (sub_c (nq_m (n := 30) rfl) (sub_c (nq_m (n := 31) rfl) (sub_c (nq_m (n := 32) rfl) (sub_c (nq_m (n := 33) rfl) (sub_c (nq_m (n := 34) rfl) (sub_c (nq_m (n := 35) rfl) sub_n)))))))))))))))))))))))))))) (by decide +kernel)
set_option maxRecDepth 100000 in
theorem gX2_isLeastOfRing_X2_comesRound : GoodIn wsX2_isLeastOfRing (wsV RX2 61 RX2 yX2_comesRound wsX2_comesRound) := goodIn_app (goodIn_sub (sub_c (nq_m (n := 12) rfl) (sub_c (nq_m (n := 13) rfl) (sub_c (nq_m (n := 14) rfl) (sub_c (nq_m (n := 4) rfl) sub_n)))) (by decide +kernel)) ggX2_isLeastOfRing_X2_comesRound
set_option maxRecDepth 100000 in
theorem ggX2_isLeastOfRing_X2_nextInChain : GoodIn wsX2_isLeastOfRing wsX2_nextInChain := goodIn_sub (sub_c (nq_m (n := 23) rfl) (sub_c (nq_m (n := 6) rfl) (sub_c (nq_m (n := 7) rfl) (sub_c (nq_m (n := 8) rfl) (sub_c (nq_m (n := 9) rfl) (sub_c (nq_m (n := 4) rfl) (sub_c (nq_m (n := 10) rfl) (sub_c (nq_m (n := 11) rfl) (sub_c (nq_m (n := 28) rfl) (sub_c (nq_m (n := 29) rfl) (sub_c (nq_m (n := 30) rfl) (sub_c (nq_m (n := 31) rfl) (sub_c (nq_m (n := 32) rfl) (sub_c (nq_m (n := 33) rfl) (sub_c (nq_m (n := 34) rfl) (sub_c (nq_m (n := 35) rfl) sub_n)))))))))))))))) (by decide +kernel)
set_option maxRecDepth 100000 in
theorem gX2_isLeastOfRing_X2_nextInChain : GoodIn wsX2_isLeastOfRing (wsV RX2 47 RX2 yX2_nextInChain wsX2_nextInChain) := goodIn_app (goodIn_sub (sub_c (nq_m (n := 20) rfl) (sub_c (nq_m (n := 21) rfl) (sub_c (nq_m (n := 22) rfl) (sub_c (nq_m (n := 4) rfl) sub_n)))) (by decide +kernel)) ggX2_isLeastOfRing_X2_nextInChain
noncomputable def dX2_isLeastOfRing_0_l : List (Nat × Instr × Nat) := [(0, .aload_n 0, 1), (1, .iload_n 1, 1), (2, .invokevirtual 58, 3), (5, .ifCond .eq 11, 3), (8, .aload_n 0, 1), (9, .iload_n 1, 1), (10, .invokevirtual 61, 3), (13, .ifCond .ne 5, 3), (16, .iconst 0, 1), (17, .ireturn, 1), (18, .iload_n 1, 1), (19, .istore_n 2, 1), (20, .iconst 0, 1), (21, .istore_n 3, 1), (22, .iload_n 3, 1), (23, .bipush 16, 2), (25, .if_icmp .ge 21, 3), (28, .iload_n 2, 1), (29, .iload_n 1, 1), (30, .if_icmp .lt 16, 3), (33, .aload_n 0, 1), (34, .iload_n 1, 1), (35, .iload_n 2, 1), (36, .invokevirtual 47, 3), (39, .istore_n 2, 1), (40, .iinc 3 1, 3), (43, .goto (-21), 3), (46, .iload_n 2, 1), (47, .iconst (-1), 1), (48, .if_icmp .ne 7, 3), (51, .iconst 1, 1), (52, .goto 4, 3), (55, .iconst 0, 1), (56, .ireturn, 1)]
set_option maxRecDepth 100000 in
theorem dX2_isLeastOfRing_0_g : dX2_isLeastOfRing_0_l.all (fun x => decide (decode cX2_isLeastOfRing x.1 = .ok x.2)) = true := by decide +kernel
theorem dX2_isLeastOfRing_0 : decode cX2_isLeastOfRing 0 = .ok (.aload_n 0, 1) := nq_d dX2_isLeastOfRing_0_g (n := 0) rfl
theorem dX2_isLeastOfRing_1 : decode cX2_isLeastOfRing 1 = .ok (.iload_n 1, 1) := nq_d dX2_isLeastOfRing_0_g (n := 1) rfl
theorem dX2_isLeastOfRing_2 : decode cX2_isLeastOfRing 2 = .ok (.invokevirtual 58, 3) := nq_d dX2_isLeastOfRing_0_g (n := 2) rfl
theorem dX2_isLeastOfRing_5 : decode cX2_isLeastOfRing 5 = .ok (.ifCond .eq 11, 3) := nq_d dX2_isLeastOfRing_0_g (n := 3) rfl
theorem dX2_isLeastOfRing_8 : decode cX2_isLeastOfRing 8 = .ok (.aload_n 0, 1) := nq_d dX2_isLeastOfRing_0_g (n := 4) rfl
theorem dX2_isLeastOfRing_9 : decode cX2_isLeastOfRing 9 = .ok (.iload_n 1, 1) := nq_d dX2_isLeastOfRing_0_g (n := 5) rfl
theorem dX2_isLeastOfRing_10 : decode cX2_isLeastOfRing 10 = .ok (.invokevirtual 61, 3) := nq_d dX2_isLeastOfRing_0_g (n := 6) rfl
theorem dX2_isLeastOfRing_13 : decode cX2_isLeastOfRing 13 = .ok (.ifCond .ne 5, 3) := nq_d dX2_isLeastOfRing_0_g (n := 7) rfl
theorem dX2_isLeastOfRing_16 : decode cX2_isLeastOfRing 16 = .ok (.iconst 0, 1) := nq_d dX2_isLeastOfRing_0_g (n := 8) rfl
theorem dX2_isLeastOfRing_17 : decode cX2_isLeastOfRing 17 = .ok (.ireturn, 1) := nq_d dX2_isLeastOfRing_0_g (n := 9) rfl
theorem dX2_isLeastOfRing_18 : decode cX2_isLeastOfRing 18 = .ok (.iload_n 1, 1) := nq_d dX2_isLeastOfRing_0_g (n := 10) rfl
theorem dX2_isLeastOfRing_19 : decode cX2_isLeastOfRing 19 = .ok (.istore_n 2, 1) := nq_d dX2_isLeastOfRing_0_g (n := 11) rfl
theorem dX2_isLeastOfRing_20 : decode cX2_isLeastOfRing 20 = .ok (.iconst 0, 1) := nq_d dX2_isLeastOfRing_0_g (n := 12) rfl
theorem dX2_isLeastOfRing_21 : decode cX2_isLeastOfRing 21 = .ok (.istore_n 3, 1) := nq_d dX2_isLeastOfRing_0_g (n := 13) rfl
theorem dX2_isLeastOfRing_22 : decode cX2_isLeastOfRing 22 = .ok (.iload_n 3, 1) := nq_d dX2_isLeastOfRing_0_g (n := 14) rfl
theorem dX2_isLeastOfRing_23 : decode cX2_isLeastOfRing 23 = .ok (.bipush 16, 2) := nq_d dX2_isLeastOfRing_0_g (n := 15) rfl
theorem dX2_isLeastOfRing_25 : decode cX2_isLeastOfRing 25 = .ok (.if_icmp .ge 21, 3) := nq_d dX2_isLeastOfRing_0_g (n := 16) rfl
theorem dX2_isLeastOfRing_28 : decode cX2_isLeastOfRing 28 = .ok (.iload_n 2, 1) := nq_d dX2_isLeastOfRing_0_g (n := 17) rfl
theorem dX2_isLeastOfRing_29 : decode cX2_isLeastOfRing 29 = .ok (.iload_n 1, 1) := nq_d dX2_isLeastOfRing_0_g (n := 18) rfl
theorem dX2_isLeastOfRing_30 : decode cX2_isLeastOfRing 30 = .ok (.if_icmp .lt 16, 3) := nq_d dX2_isLeastOfRing_0_g (n := 19) rfl
theorem dX2_isLeastOfRing_33 : decode cX2_isLeastOfRing 33 = .ok (.aload_n 0, 1) := nq_d dX2_isLeastOfRing_0_g (n := 20) rfl
theorem dX2_isLeastOfRing_34 : decode cX2_isLeastOfRing 34 = .ok (.iload_n 1, 1) := nq_d dX2_isLeastOfRing_0_g (n := 21) rfl
theorem dX2_isLeastOfRing_35 : decode cX2_isLeastOfRing 35 = .ok (.iload_n 2, 1) := nq_d dX2_isLeastOfRing_0_g (n := 22) rfl
theorem dX2_isLeastOfRing_36 : decode cX2_isLeastOfRing 36 = .ok (.invokevirtual 47, 3) := nq_d dX2_isLeastOfRing_0_g (n := 23) rfl
theorem dX2_isLeastOfRing_39 : decode cX2_isLeastOfRing 39 = .ok (.istore_n 2, 1) := nq_d dX2_isLeastOfRing_0_g (n := 24) rfl
theorem dX2_isLeastOfRing_40 : decode cX2_isLeastOfRing 40 = .ok (.iinc 3 1, 3) := nq_d dX2_isLeastOfRing_0_g (n := 25) rfl
theorem dX2_isLeastOfRing_43 : decode cX2_isLeastOfRing 43 = .ok (.goto (-21), 3) := nq_d dX2_isLeastOfRing_0_g (n := 26) rfl
theorem dX2_isLeastOfRing_46 : decode cX2_isLeastOfRing 46 = .ok (.iload_n 2, 1) := nq_d dX2_isLeastOfRing_0_g (n := 27) rfl
theorem dX2_isLeastOfRing_47 : decode cX2_isLeastOfRing 47 = .ok (.iconst (-1), 1) := nq_d dX2_isLeastOfRing_0_g (n := 28) rfl
theorem dX2_isLeastOfRing_48 : decode cX2_isLeastOfRing 48 = .ok (.if_icmp .ne 7, 3) := nq_d dX2_isLeastOfRing_0_g (n := 29) rfl
theorem dX2_isLeastOfRing_51 : decode cX2_isLeastOfRing 51 = .ok (.iconst 1, 1) := nq_d dX2_isLeastOfRing_0_g (n := 30) rfl
theorem dX2_isLeastOfRing_52 : decode cX2_isLeastOfRing 52 = .ok (.goto 4, 3) := nq_d dX2_isLeastOfRing_0_g (n := 31) rfl
theorem dX2_isLeastOfRing_55 : decode cX2_isLeastOfRing 55 = .ok (.iconst 0, 1) := nq_d dX2_isLeastOfRing_0_g (n := 32) rfl
theorem dX2_isLeastOfRing_56 : decode cX2_isLeastOfRing 56 = .ok (.ireturn, 1) := nq_d dX2_isLeastOfRing_0_g (n := 33) rfl
noncomputable def dX3_init_0_l : List (Nat × Instr × Nat) := [(0, .aload_n 0, 1), (1, .invokespecial 3, 3), (4, .aload_n 0, 1), (5, .bipush 24, 2), (7, .newarray .int, 2), (9, .putfield 9, 3), (12, .aload_n 0, 1), (13, .bipush 24, 2), (15, .newarray .int, 2), (17, .putfield 15, 3), (20, .aload_n 0, 1), (21, .bipush 12, 2), (23, .newarray .int, 2), (25, .putfield 18, 3), (28, .aload_n 0, 1), (29, .iconst 3, 1), (30, .newarray .int, 2), (32, .putfield 21, 3), (35, .aload_n 0, 1), (36, .iconst 0, 1), (37, .putfield 24, 3), (40, .aload_n 0, 1), (41, .iconst 0, 1), (42, .putfield 28, 3), (45, .aload_n 0, 1), (46, .iconst 0, 1), (47, .putfield 31, 3), (50, .return_, 1)]
set_option maxRecDepth 100000 in
theorem dX3_init_0_g : dX3_init_0_l.all (fun x => decide (decode cX3_init x.1 = .ok x.2)) = true := by decide +kernel
theorem dX3_init_0 : decode cX3_init 0 = .ok (.aload_n 0, 1) := nq_d dX3_init_0_g (n := 0) rfl
theorem dX3_init_1 : decode cX3_init 1 = .ok (.invokespecial 3, 3) := nq_d dX3_init_0_g (n := 1) rfl
theorem dX3_init_4 : decode cX3_init 4 = .ok (.aload_n 0, 1) := nq_d dX3_init_0_g (n := 2) rfl
theorem dX3_init_5 : decode cX3_init 5 = .ok (.bipush 24, 2) := nq_d dX3_init_0_g (n := 3) rfl
theorem dX3_init_7 : decode cX3_init 7 = .ok (.newarray .int, 2) := nq_d dX3_init_0_g (n := 4) rfl
theorem dX3_init_9 : decode cX3_init 9 = .ok (.putfield 9, 3) := nq_d dX3_init_0_g (n := 5) rfl
theorem dX3_init_12 : decode cX3_init 12 = .ok (.aload_n 0, 1) := nq_d dX3_init_0_g (n := 6) rfl
theorem dX3_init_13 : decode cX3_init 13 = .ok (.bipush 24, 2) := nq_d dX3_init_0_g (n := 7) rfl
theorem dX3_init_15 : decode cX3_init 15 = .ok (.newarray .int, 2) := nq_d dX3_init_0_g (n := 8) rfl
theorem dX3_init_17 : decode cX3_init 17 = .ok (.putfield 15, 3) := nq_d dX3_init_0_g (n := 9) rfl
theorem dX3_init_20 : decode cX3_init 20 = .ok (.aload_n 0, 1) := nq_d dX3_init_0_g (n := 10) rfl
theorem dX3_init_21 : decode cX3_init 21 = .ok (.bipush 12, 2) := nq_d dX3_init_0_g (n := 11) rfl
theorem dX3_init_23 : decode cX3_init 23 = .ok (.newarray .int, 2) := nq_d dX3_init_0_g (n := 12) rfl
theorem dX3_init_25 : decode cX3_init 25 = .ok (.putfield 18, 3) := nq_d dX3_init_0_g (n := 13) rfl
theorem dX3_init_28 : decode cX3_init 28 = .ok (.aload_n 0, 1) := nq_d dX3_init_0_g (n := 14) rfl
theorem dX3_init_29 : decode cX3_init 29 = .ok (.iconst 3, 1) := nq_d dX3_init_0_g (n := 15) rfl
theorem dX3_init_30 : decode cX3_init 30 = .ok (.newarray .int, 2) := nq_d dX3_init_0_g (n := 16) rfl
theorem dX3_init_32 : decode cX3_init 32 = .ok (.putfield 21, 3) := nq_d dX3_init_0_g (n := 17) rfl
theorem dX3_init_35 : decode cX3_init 35 = .ok (.aload_n 0, 1) := nq_d dX3_init_0_g (n := 18) rfl
theorem dX3_init_36 : decode cX3_init 36 = .ok (.iconst 0, 1) := nq_d dX3_init_0_g (n := 19) rfl
theorem dX3_init_37 : decode cX3_init 37 = .ok (.putfield 24, 3) := nq_d dX3_init_0_g (n := 20) rfl
theorem dX3_init_40 : decode cX3_init 40 = .ok (.aload_n 0, 1) := nq_d dX3_init_0_g (n := 21) rfl
theorem dX3_init_41 : decode cX3_init 41 = .ok (.iconst 0, 1) := nq_d dX3_init_0_g (n := 22) rfl
theorem dX3_init_42 : decode cX3_init 42 = .ok (.putfield 28, 3) := nq_d dX3_init_0_g (n := 23) rfl
theorem dX3_init_45 : decode cX3_init 45 = .ok (.aload_n 0, 1) := nq_d dX3_init_0_g (n := 24) rfl
theorem dX3_init_46 : decode cX3_init 46 = .ok (.iconst 0, 1) := nq_d dX3_init_0_g (n := 25) rfl
theorem dX3_init_47 : decode cX3_init 47 = .ok (.putfield 31, 3) := nq_d dX3_init_0_g (n := 26) rfl
theorem dX3_init_50 : decode cX3_init 50 = .ok (.return_, 1) := nq_d dX3_init_0_g (n := 27) rfl
set_option maxRecDepth 100000 in
theorem ggX3_clear_X3_tellWeights : GoodIn wsX3_clear wsX3_tellWeights := goodIn_sub (sub_c (nq_m (n := 8) rfl) (sub_c (nq_m (n := 9) rfl) (sub_c (nq_m (n := 18) rfl) (sub_c (nq_m (n := 19) rfl) (sub_c (nq_m (n := 20) rfl) (sub_c (nq_m (n := 21) rfl) (sub_c (nq_m (n := 22) rfl) (sub_c (nq_m (n := 23) rfl) (sub_c (nq_m (n := 24) rfl) sub_n))))))))) (by decide +kernel)
set_option maxRecDepth 100000 in
theorem gX3_clear_X3_tellWeights : GoodIn wsX3_clear (wsV RX3 34 RX3 yX3_tellWeights wsX3_tellWeights) := goodIn_app (goodIn_sub (sub_c (nq_m (n := 4) rfl) (sub_c (nq_m (n := 5) rfl) (sub_c (nq_m (n := 6) rfl) (sub_c (nq_m (n := 7) rfl) sub_n)))) (by decide +kernel)) ggX3_clear_X3_tellWeights
set_option maxRecDepth 100000 in
theorem ggX3_clear_X3_tellShares : GoodIn wsX3_clear wsX3_tellShares := goodIn_sub (sub_c (nq_m (n := 13) rfl) (sub_c (nq_m (n := 14) rfl) (sub_c (nq_m (n := 15) rfl) (sub_c (nq_m (n := 16) rfl) (sub_c (nq_m (n := 17) rfl) (sub_c (nq_m (n := 18) rfl) (sub_c (nq_m (n := 19) rfl) (sub_c (nq_m (n := 20) rfl) (sub_c (nq_m (n := 21) rfl) (sub_c (nq_m (n := 22) rfl) (sub_c (nq_m (n := 23) rfl) (sub_c (nq_m (n := 24) rfl) sub_n)))))))))))) (by decide +kernel)
set_option maxRecDepth 100000 in
theorem gX3_clear_X3_tellShares : GoodIn wsX3_clear (wsV RX3 38 RX3 yX3_tellShares wsX3_tellShares) := goodIn_app (goodIn_sub (sub_c (nq_m (n := 10) rfl) (sub_c (nq_m (n := 11) rfl) (sub_c (nq_m (n := 12) rfl) (sub_c (nq_m (n := 7) rfl) sub_n)))) (by decide +kernel)) ggX3_clear_X3_tellShares
noncomputable def dX3_clear_0_l : List (Nat × Instr × Nat) := [(0, .aload_n 0, 1), (1, .iconst 0, 1), (2, .putfield 24, 3), (5, .aload_n 0, 1), (6, .iconst 2, 1), (7, .putfield 28, 3), (10, .aload_n 0, 1), (11, .iconst 1, 1), (12, .putfield 31, 3), (15, .aload_n 0, 1), (16, .iconst 1, 1), (17, .iconst 2, 1), (18, .iconst 5, 1), (19, .invokevirtual 34, 3), (22, .iconst 0, 1), (23, .istore_n 1, 1), (24, .iload_n 1, 1), (25, .iconst 4, 1), (26, .if_icmp .ge 20, 3), (29, .aload_n 0, 1), (30, .iload_n 1, 1), (31, .bipush 10, 2), (33, .bipush 20, 2), (35, .bipush 70, 2), (37, .invokevirtual 38, 3), (40, .iinc 1 1, 3), (43, .goto (-19), 3), (46, .return_, 1)]
set_option maxRecDepth 100000 in
theorem dX3_clear_0_g : dX3_clear_0_l.all (fun x => decide (decode cX3_clear x.1 = .ok x.2)) = true := by decide +kernel
theorem dX3_clear_0 : decode cX3_clear 0 = .ok (.aload_n 0, 1) := nq_d dX3_clear_0_g (n := 0) rfl
theorem dX3_clear_1 : decode cX3_clear 1 = .ok (.iconst 0, 1) := nq_d dX3_clear_0_g (n := 1) rfl
theorem dX3_clear_2 : decode cX3_clear 2 = .ok (.putfield 24, 3) := nq_d dX3_clear_0_g (n := 2) rfl
theorem dX3_clear_5 : decode cX3_clear 5 = .ok (.aload_n 0, 1) := nq_d dX3_clear_0_g (n := 3) rfl
theorem dX3_clear_6 : decode cX3_clear 6 = .ok (.iconst 2, 1) := nq_d dX3_clear_0_g (n := 4) rfl
theorem dX3_clear_7 : decode cX3_clear 7 = .ok (.putfield 28, 3) := nq_d dX3_clear_0_g (n := 5) rfl
theorem dX3_clear_10 : decode cX3_clear 10 = .ok (.aload_n 0, 1) := nq_d dX3_clear_0_g (n := 6) rfl
theorem dX3_clear_11 : decode cX3_clear 11 = .ok (.iconst 1, 1) := nq_d dX3_clear_0_g (n := 7) rfl
theorem dX3_clear_12 : decode cX3_clear 12 = .ok (.putfield 31, 3) := nq_d dX3_clear_0_g (n := 8) rfl
theorem dX3_clear_15 : decode cX3_clear 15 = .ok (.aload_n 0, 1) := nq_d dX3_clear_0_g (n := 9) rfl
theorem dX3_clear_16 : decode cX3_clear 16 = .ok (.iconst 1, 1) := nq_d dX3_clear_0_g (n := 10) rfl
theorem dX3_clear_17 : decode cX3_clear 17 = .ok (.iconst 2, 1) := nq_d dX3_clear_0_g (n := 11) rfl
theorem dX3_clear_18 : decode cX3_clear 18 = .ok (.iconst 5, 1) := nq_d dX3_clear_0_g (n := 12) rfl
theorem dX3_clear_19 : decode cX3_clear 19 = .ok (.invokevirtual 34, 3) := nq_d dX3_clear_0_g (n := 13) rfl
theorem dX3_clear_22 : decode cX3_clear 22 = .ok (.iconst 0, 1) := nq_d dX3_clear_0_g (n := 14) rfl
theorem dX3_clear_23 : decode cX3_clear 23 = .ok (.istore_n 1, 1) := nq_d dX3_clear_0_g (n := 15) rfl
theorem dX3_clear_24 : decode cX3_clear 24 = .ok (.iload_n 1, 1) := nq_d dX3_clear_0_g (n := 16) rfl
theorem dX3_clear_25 : decode cX3_clear 25 = .ok (.iconst 4, 1) := nq_d dX3_clear_0_g (n := 17) rfl
theorem dX3_clear_26 : decode cX3_clear 26 = .ok (.if_icmp .ge 20, 3) := nq_d dX3_clear_0_g (n := 18) rfl
theorem dX3_clear_29 : decode cX3_clear 29 = .ok (.aload_n 0, 1) := nq_d dX3_clear_0_g (n := 19) rfl
theorem dX3_clear_30 : decode cX3_clear 30 = .ok (.iload_n 1, 1) := nq_d dX3_clear_0_g (n := 20) rfl
theorem dX3_clear_31 : decode cX3_clear 31 = .ok (.bipush 10, 2) := nq_d dX3_clear_0_g (n := 21) rfl
theorem dX3_clear_33 : decode cX3_clear 33 = .ok (.bipush 20, 2) := nq_d dX3_clear_0_g (n := 22) rfl
theorem dX3_clear_35 : decode cX3_clear 35 = .ok (.bipush 70, 2) := nq_d dX3_clear_0_g (n := 23) rfl
theorem dX3_clear_37 : decode cX3_clear 37 = .ok (.invokevirtual 38, 3) := nq_d dX3_clear_0_g (n := 24) rfl
theorem dX3_clear_40 : decode cX3_clear 40 = .ok (.iinc 1 1, 3) := nq_d dX3_clear_0_g (n := 25) rfl
theorem dX3_clear_43 : decode cX3_clear 43 = .ok (.goto (-19), 3) := nq_d dX3_clear_0_g (n := 26) rfl
theorem dX3_clear_46 : decode cX3_clear 46 = .ok (.return_, 1) := nq_d dX3_clear_0_g (n := 27) rfl
noncomputable def dX3_tellWeights_0_l : List (Nat × Instr × Nat) := [(0, .aload_n 0, 1), (1, .getfield 21, 3), (4, .iconst 0, 1), (5, .iload_n 1, 1), (6, .iastore, 1), (7, .aload_n 0, 1), (8, .getfield 21, 3), (11, .iconst 1, 1), (12, .iload_n 2, 1), (13, .iastore, 1), (14, .aload_n 0, 1), (15, .getfield 21, 3), (18, .iconst 2, 1), (19, .iload_n 3, 1), (20, .iastore, 1), (21, .return_, 1)]
set_option maxRecDepth 100000 in
theorem dX3_tellWeights_0_g : dX3_tellWeights_0_l.all (fun x => decide (decode cX3_tellWeights x.1 = .ok x.2)) = true := by decide +kernel
theorem dX3_tellWeights_0 : decode cX3_tellWeights 0 = .ok (.aload_n 0, 1) := nq_d dX3_tellWeights_0_g (n := 0) rfl
theorem dX3_tellWeights_1 : decode cX3_tellWeights 1 = .ok (.getfield 21, 3) := nq_d dX3_tellWeights_0_g (n := 1) rfl
theorem dX3_tellWeights_4 : decode cX3_tellWeights 4 = .ok (.iconst 0, 1) := nq_d dX3_tellWeights_0_g (n := 2) rfl
theorem dX3_tellWeights_5 : decode cX3_tellWeights 5 = .ok (.iload_n 1, 1) := nq_d dX3_tellWeights_0_g (n := 3) rfl
theorem dX3_tellWeights_6 : decode cX3_tellWeights 6 = .ok (.iastore, 1) := nq_d dX3_tellWeights_0_g (n := 4) rfl
theorem dX3_tellWeights_7 : decode cX3_tellWeights 7 = .ok (.aload_n 0, 1) := nq_d dX3_tellWeights_0_g (n := 5) rfl
theorem dX3_tellWeights_8 : decode cX3_tellWeights 8 = .ok (.getfield 21, 3) := nq_d dX3_tellWeights_0_g (n := 6) rfl
theorem dX3_tellWeights_11 : decode cX3_tellWeights 11 = .ok (.iconst 1, 1) := nq_d dX3_tellWeights_0_g (n := 7) rfl
theorem dX3_tellWeights_12 : decode cX3_tellWeights 12 = .ok (.iload_n 2, 1) := nq_d dX3_tellWeights_0_g (n := 8) rfl
theorem dX3_tellWeights_13 : decode cX3_tellWeights 13 = .ok (.iastore, 1) := nq_d dX3_tellWeights_0_g (n := 9) rfl
theorem dX3_tellWeights_14 : decode cX3_tellWeights 14 = .ok (.aload_n 0, 1) := nq_d dX3_tellWeights_0_g (n := 10) rfl
theorem dX3_tellWeights_15 : decode cX3_tellWeights 15 = .ok (.getfield 21, 3) := nq_d dX3_tellWeights_0_g (n := 11) rfl
theorem dX3_tellWeights_18 : decode cX3_tellWeights 18 = .ok (.iconst 2, 1) := nq_d dX3_tellWeights_0_g (n := 12) rfl
theorem dX3_tellWeights_19 : decode cX3_tellWeights 19 = .ok (.iload_n 3, 1) := nq_d dX3_tellWeights_0_g (n := 13) rfl
theorem dX3_tellWeights_20 : decode cX3_tellWeights 20 = .ok (.iastore, 1) := nq_d dX3_tellWeights_0_g (n := 14) rfl
theorem dX3_tellWeights_21 : decode cX3_tellWeights 21 = .ok (.return_, 1) := nq_d dX3_tellWeights_0_g (n := 15) rfl
set_option maxRecDepth 100000 in
theorem ggX3_tellShares_X10_within : GoodIn wsX3_tellShares wsX10_within := goodIn_sub (sub_c (nq_m (n := 4) rfl) sub_n) (by decide +kernel)
set_option maxRecDepth 100000 in
theorem gX3_tellShares_X10_within_n42 : GoodIn wsX3_tellShares (wsX10_within) := ggX3_tellShares_X10_within
noncomputable def dX3_tellShares_0_l : List (Nat × Instr × Nat) := [(0, .iload_n 1, 1), (1, .iconst 0, 1), (2, .iconst 3, 1), (3, .invokestatic 42, 3), (6, .ifCond .ne 4, 3), (9, .return_, 1), (10, .aload_n 0, 1), (11, .getfield 18, 3), (14, .iload_n 1, 1), (15, .iconst 3, 1), (16, .imul, 1), (17, .iload_n 2, 1), (18, .iastore, 1), (19, .aload_n 0, 1), (20, .getfield 18, 3), (23, .iload_n 1, 1), (24, .iconst 3, 1), (25, .imul, 1), (26, .iconst 1, 1), (27, .iadd, 1), (28, .iload_n 3, 1), (29, .iastore, 1), (30, .aload_n 0, 1), (31, .getfield 18, 3), (34, .iload_n 1, 1), (35, .iconst 3, 1), (36, .imul, 1), (37, .iconst 2, 1), (38, .iadd, 1), (39, .iload 4, 2), (41, .iastore, 1), (42, .return_, 1)]
set_option maxRecDepth 100000 in
theorem dX3_tellShares_0_g : dX3_tellShares_0_l.all (fun x => decide (decode cX3_tellShares x.1 = .ok x.2)) = true := by decide +kernel
theorem dX3_tellShares_0 : decode cX3_tellShares 0 = .ok (.iload_n 1, 1) := nq_d dX3_tellShares_0_g (n := 0) rfl
theorem dX3_tellShares_1 : decode cX3_tellShares 1 = .ok (.iconst 0, 1) := nq_d dX3_tellShares_0_g (n := 1) rfl
theorem dX3_tellShares_2 : decode cX3_tellShares 2 = .ok (.iconst 3, 1) := nq_d dX3_tellShares_0_g (n := 2) rfl
theorem dX3_tellShares_3 : decode cX3_tellShares 3 = .ok (.invokestatic 42, 3) := nq_d dX3_tellShares_0_g (n := 3) rfl
theorem dX3_tellShares_6 : decode cX3_tellShares 6 = .ok (.ifCond .ne 4, 3) := nq_d dX3_tellShares_0_g (n := 4) rfl
theorem dX3_tellShares_9 : decode cX3_tellShares 9 = .ok (.return_, 1) := nq_d dX3_tellShares_0_g (n := 5) rfl
theorem dX3_tellShares_10 : decode cX3_tellShares 10 = .ok (.aload_n 0, 1) := nq_d dX3_tellShares_0_g (n := 6) rfl
theorem dX3_tellShares_11 : decode cX3_tellShares 11 = .ok (.getfield 18, 3) := nq_d dX3_tellShares_0_g (n := 7) rfl
theorem dX3_tellShares_14 : decode cX3_tellShares 14 = .ok (.iload_n 1, 1) := nq_d dX3_tellShares_0_g (n := 8) rfl
theorem dX3_tellShares_15 : decode cX3_tellShares 15 = .ok (.iconst 3, 1) := nq_d dX3_tellShares_0_g (n := 9) rfl
theorem dX3_tellShares_16 : decode cX3_tellShares 16 = .ok (.imul, 1) := nq_d dX3_tellShares_0_g (n := 10) rfl
theorem dX3_tellShares_17 : decode cX3_tellShares 17 = .ok (.iload_n 2, 1) := nq_d dX3_tellShares_0_g (n := 11) rfl
theorem dX3_tellShares_18 : decode cX3_tellShares 18 = .ok (.iastore, 1) := nq_d dX3_tellShares_0_g (n := 12) rfl
theorem dX3_tellShares_19 : decode cX3_tellShares 19 = .ok (.aload_n 0, 1) := nq_d dX3_tellShares_0_g (n := 13) rfl
theorem dX3_tellShares_20 : decode cX3_tellShares 20 = .ok (.getfield 18, 3) := nq_d dX3_tellShares_0_g (n := 14) rfl
theorem dX3_tellShares_23 : decode cX3_tellShares 23 = .ok (.iload_n 1, 1) := nq_d dX3_tellShares_0_g (n := 15) rfl
theorem dX3_tellShares_24 : decode cX3_tellShares 24 = .ok (.iconst 3, 1) := nq_d dX3_tellShares_0_g (n := 16) rfl
theorem dX3_tellShares_25 : decode cX3_tellShares 25 = .ok (.imul, 1) := nq_d dX3_tellShares_0_g (n := 17) rfl
theorem dX3_tellShares_26 : decode cX3_tellShares 26 = .ok (.iconst 1, 1) := nq_d dX3_tellShares_0_g (n := 18) rfl
theorem dX3_tellShares_27 : decode cX3_tellShares 27 = .ok (.iadd, 1) := nq_d dX3_tellShares_0_g (n := 19) rfl
theorem dX3_tellShares_28 : decode cX3_tellShares 28 = .ok (.iload_n 3, 1) := nq_d dX3_tellShares_0_g (n := 20) rfl
theorem dX3_tellShares_29 : decode cX3_tellShares 29 = .ok (.iastore, 1) := nq_d dX3_tellShares_0_g (n := 21) rfl
theorem dX3_tellShares_30 : decode cX3_tellShares 30 = .ok (.aload_n 0, 1) := nq_d dX3_tellShares_0_g (n := 22) rfl
theorem dX3_tellShares_31 : decode cX3_tellShares 31 = .ok (.getfield 18, 3) := nq_d dX3_tellShares_0_g (n := 23) rfl
theorem dX3_tellShares_34 : decode cX3_tellShares 34 = .ok (.iload_n 1, 1) := nq_d dX3_tellShares_0_g (n := 24) rfl
theorem dX3_tellShares_35 : decode cX3_tellShares 35 = .ok (.iconst 3, 1) := nq_d dX3_tellShares_0_g (n := 25) rfl
theorem dX3_tellShares_36 : decode cX3_tellShares 36 = .ok (.imul, 1) := nq_d dX3_tellShares_0_g (n := 26) rfl
theorem dX3_tellShares_37 : decode cX3_tellShares 37 = .ok (.iconst 2, 1) := nq_d dX3_tellShares_0_g (n := 27) rfl
theorem dX3_tellShares_38 : decode cX3_tellShares 38 = .ok (.iadd, 1) := nq_d dX3_tellShares_0_g (n := 28) rfl
theorem dX3_tellShares_39 : decode cX3_tellShares 39 = .ok (.iload 4, 2) := nq_d dX3_tellShares_0_g (n := 29) rfl
theorem dX3_tellShares_41 : decode cX3_tellShares 41 = .ok (.iastore, 1) := nq_d dX3_tellShares_0_g (n := 30) rfl
theorem dX3_tellShares_42 : decode cX3_tellShares 42 = .ok (.return_, 1) := nq_d dX3_tellShares_0_g (n := 31) rfl
noncomputable def dX3_addRow_0_l : List (Nat × Instr × Nat) := [(0, .iconst 0, 1), (1, .istore 4, 2), (3, .iload 4, 2), (5, .iload_n 1, 1), (6, .if_icmp .ge 51, 3), (9, .aload_n 0, 1), (10, .getfield 24, 3), (13, .bipush 24, 2), (15, .if_icmp .ge 42, 3), (18, .aload_n 0, 1), (19, .getfield 9, 3), (22, .aload_n 0, 1), (23, .getfield 24, 3), (26, .iload_n 2, 1), (27, .iastore, 1), (28, .aload_n 0, 1), (29, .getfield 15, 3), (32, .aload_n 0, 1), (33, .getfield 24, 3), (36, .iload_n 3, 1), (37, .iload 4, 2), (39, .iadd, 1), (40, .iastore, 1), (41, .aload_n 0, 1), (42, .dup, 1), (43, .getfield 24, 3), (46, .iconst 1, 1), (47, .iadd, 1), (48, .putfield 24, 3), (51, .iinc 4 1, 3), (54, .goto (-51), 3), (57, .return_, 1)]
set_option maxRecDepth 100000 in
theorem dX3_addRow_0_g : dX3_addRow_0_l.all (fun x => decide (decode cX3_addRow x.1 = .ok x.2)) = true := by decide +kernel
theorem dX3_addRow_0 : decode cX3_addRow 0 = .ok (.iconst 0, 1) := nq_d dX3_addRow_0_g (n := 0) rfl
theorem dX3_addRow_1 : decode cX3_addRow 1 = .ok (.istore 4, 2) := nq_d dX3_addRow_0_g (n := 1) rfl
theorem dX3_addRow_3 : decode cX3_addRow 3 = .ok (.iload 4, 2) := nq_d dX3_addRow_0_g (n := 2) rfl
theorem dX3_addRow_5 : decode cX3_addRow 5 = .ok (.iload_n 1, 1) := nq_d dX3_addRow_0_g (n := 3) rfl
theorem dX3_addRow_6 : decode cX3_addRow 6 = .ok (.if_icmp .ge 51, 3) := nq_d dX3_addRow_0_g (n := 4) rfl
theorem dX3_addRow_9 : decode cX3_addRow 9 = .ok (.aload_n 0, 1) := nq_d dX3_addRow_0_g (n := 5) rfl
