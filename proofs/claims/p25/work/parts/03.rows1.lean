noncomputable def dX0_init_0_l : List (Nat × Instr × Nat) := [(0, .aload_n 0, 1), (1, .invokespecial 3, 3), (4, .aload_n 0, 1), (5, .iconst 0, 1), (6, .putfield 9, 3), (9, .aload_n 0, 1), (10, .bipush 6, 2), (12, .newarray .int, 2), (14, .putfield 15, 3), (17, .aload_n 0, 1), (18, .bipush 6, 2), (20, .newarray .int, 2), (22, .putfield 19, 3), (25, .aload_n 0, 1), (26, .bipush 6, 2), (28, .newarray .int, 2), (30, .putfield 22, 3), (33, .return_, 1)]
set_option maxRecDepth 100000 in
theorem dX0_init_0_g : dX0_init_0_l.all (fun x => decide (decode cX0_init x.1 = .ok x.2)) = true := by decide +kernel
noncomputable def dX0_copyFrom_0_l : List (Nat × Instr × Nat) := [(0, .aload_n 0, 1), (1, .aload_n 1, 1), (2, .getfield 9, 3), (5, .putfield 9, 3), (8, .aload_n 1, 1), (9, .getfield 15, 3), (12, .iconst 0, 1), (13, .aload_n 0, 1), (14, .getfield 15, 3), (17, .iconst 0, 1), (18, .bipush 6, 2), (20, .invokestatic 25, 3), (23, .aload_n 1, 1), (24, .getfield 19, 3), (27, .iconst 0, 1), (28, .aload_n 0, 1), (29, .getfield 19, 3), (32, .iconst 0, 1), (33, .bipush 6, 2), (35, .invokestatic 25, 3), (38, .aload_n 1, 1), (39, .getfield 22, 3), (42, .iconst 0, 1), (43, .aload_n 0, 1), (44, .getfield 22, 3), (47, .iconst 0, 1), (48, .bipush 6, 2), (50, .invokestatic 25, 3), (53, .return_, 1)]
set_option maxRecDepth 100000 in
theorem dX0_copyFrom_0_g : dX0_copyFrom_0_l.all (fun x => decide (decode cX0_copyFrom x.1 = .ok x.2)) = true := by decide +kernel
noncomputable def dX0_knows_0_l : List (Nat × Instr × Nat) := [(0, .iload_n 1, 1), (1, .ifCond .lt 21, 3), (4, .iload_n 1, 1), (5, .aload_n 0, 1), (6, .getfield 9, 3), (9, .if_icmp .ge 13, 3), (12, .iload_n 1, 1), (13, .bipush 6, 2), (15, .if_icmp .ge 7, 3), (18, .iconst 1, 1), (19, .goto 4, 3), (22, .iconst 0, 1), (23, .ireturn, 1)]
set_option maxRecDepth 100000 in
theorem dX0_knows_0_g : dX0_knows_0_l.all (fun x => decide (decode cX0_knows x.1 = .ok x.2)) = true := by decide +kernel
noncomputable def dX0_isOf_0_l : List (Nat × Instr × Nat) := [(0, .iconst 0, 1), (1, .istore_n 2, 1), (2, .iload_n 2, 1), (3, .aload_n 0, 1), (4, .getfield 9, 3), (7, .if_icmp .ge 21, 3), (10, .aload_n 0, 1), (11, .getfield 15, 3), (14, .iload_n 2, 1), (15, .iaload, 1), (16, .iload_n 1, 1), (17, .if_icmp .ne 5, 3), (20, .iconst 1, 1), (21, .ireturn, 1), (22, .iinc 2 1, 3), (25, .goto (-23), 3), (28, .iconst 0, 1), (29, .ireturn, 1)]
set_option maxRecDepth 100000 in
theorem dX0_isOf_0_g : dX0_isOf_0_l.all (fun x => decide (decode cX0_isOf x.1 = .ok x.2)) = true := by decide +kernel
set_option maxRecDepth 100000 in
theorem gw_X0_knows : wsX0_knows.all goodWord = true := by decide +kernel
set_option maxRecDepth 100000 in
theorem ggX0_guestOf_X0_knows : GoodIn wsX0_guestOf wsX0_knows := goodIn_sub (sub_g [(6, [0, 0, 0, 0, 0])] rfl) gw_X0_knows
set_option maxRecDepth 100000 in
theorem gX0_guestOf_X0_knows : GoodIn wsX0_guestOf (wsV RX0 31 RX0 yX0_knows wsX0_knows) := goodIn_app (goodIn_sub (sub_c (nq_m (n := 2) rfl) (sub_c (nq_m (n := 3) rfl) (sub_c (nq_m (n := 4) rfl) (sub_c (nq_m (n := 5) rfl) sub_n)))) (by decide +kernel)) ggX0_guestOf_X0_knows
noncomputable def dX0_guestOf_0_l : List (Nat × Instr × Nat) := [(0, .aload_n 0, 1), (1, .iload_n 1, 1), (2, .invokevirtual 31, 3), (5, .ifCond .eq 12, 3), (8, .aload_n 0, 1), (9, .getfield 15, 3), (12, .iload_n 1, 1), (13, .iaload, 1), (14, .goto 4, 3), (17, .iconst (-1), 1), (18, .ireturn, 1)]
set_option maxRecDepth 100000 in
theorem dX0_guestOf_0_g : dX0_guestOf_0_l.all (fun x => decide (decode cX0_guestOf x.1 = .ok x.2)) = true := by decide +kernel
noncomputable def dX0_add_0_l : List (Nat × Instr × Nat) := [(0, .aload_n 0, 1), (1, .getfield 9, 3), (4, .istore 4, 2), (6, .iload 4, 2), (8, .ifCond .lt 10, 3), (11, .iload 4, 2), (13, .bipush 6, 2), (15, .if_icmp .lt 7, 3), (18, .sipush (-1004), 3), (21, .ireturn, 1), (22, .aload_n 0, 1), (23, .getfield 15, 3), (26, .iload 4, 2), (28, .iload_n 1, 1), (29, .iastore, 1), (30, .aload_n 0, 1), (31, .getfield 19, 3), (34, .iload 4, 2), (36, .iload_n 2, 1), (37, .iastore, 1), (38, .aload_n 0, 1), (39, .getfield 22, 3), (42, .iload 4, 2), (44, .iload_n 3, 1), (45, .iastore, 1), (46, .aload_n 0, 1), (47, .dup, 1), (48, .getfield 9, 3), (51, .iconst 1, 1), (52, .iadd, 1), (53, .putfield 9, 3), (56, .iload 4, 2), (58, .ireturn, 1)]
set_option maxRecDepth 100000 in
theorem dX0_add_0_g : dX0_add_0_l.all (fun x => decide (decode cX0_add x.1 = .ok x.2)) = true := by decide +kernel
set_option maxRecDepth 100000 in
theorem ggX0_remove_X0_knows : GoodIn wsX0_remove wsX0_knows := goodIn_sub (sub_g [(9, []), (1, [8, 0, 0, 0])] rfl) gw_X0_knows
set_option maxRecDepth 100000 in
theorem gX0_remove_X0_knows : GoodIn wsX0_remove (wsV RX0 31 RX0 yX0_knows wsX0_knows) := goodIn_app (goodIn_sub (sub_c (nq_m (n := 5) rfl) (sub_c (nq_m (n := 6) rfl) (sub_c (nq_m (n := 7) rfl) (sub_c (nq_m (n := 8) rfl) sub_n)))) (by decide +kernel)) ggX0_remove_X0_knows
noncomputable def dX0_remove_0_l : List (Nat × Instr × Nat) := [(0, .aload_n 0, 1), (1, .iload_n 1, 1), (2, .invokevirtual 31, 3), (5, .ifCond .ne 4, 3), (8, .return_, 1), (9, .iload_n 1, 1), (10, .istore_n 2, 1), (11, .iload_n 2, 1), (12, .iconst 1, 1), (13, .iadd, 1), (14, .aload_n 0, 1), (15, .getfield 9, 3), (18, .if_icmp .ge 59, 3), (21, .iload_n 2, 1), (22, .iconst 1, 1), (23, .iadd, 1), (24, .bipush 6, 2), (26, .if_icmp .ge 51, 3), (29, .aload_n 0, 1), (30, .getfield 15, 3), (33, .iload_n 2, 1), (34, .aload_n 0, 1), (35, .getfield 15, 3), (38, .iload_n 2, 1), (39, .iconst 1, 1), (40, .iadd, 1), (41, .iaload, 1), (42, .iastore, 1), (43, .aload_n 0, 1), (44, .getfield 19, 3), (47, .iload_n 2, 1), (48, .aload_n 0, 1), (49, .getfield 19, 3), (52, .iload_n 2, 1), (53, .iconst 1, 1), (54, .iadd, 1), (55, .iaload, 1), (56, .iastore, 1), (57, .aload_n 0, 1), (58, .getfield 22, 3)]
set_option maxRecDepth 100000 in
theorem dX0_remove_0_g : dX0_remove_0_l.all (fun x => decide (decode cX0_remove x.1 = .ok x.2)) = true := by decide +kernel
noncomputable def dX0_remove_61_l : List (Nat × Instr × Nat) := [(61, .iload_n 2, 1), (62, .aload_n 0, 1), (63, .getfield 22, 3), (66, .iload_n 2, 1), (67, .iconst 1, 1), (68, .iadd, 1), (69, .iaload, 1), (70, .iastore, 1), (71, .iinc 2 1, 3), (74, .goto (-63), 3), (77, .aload_n 0, 1), (78, .dup, 1), (79, .getfield 9, 3), (82, .iconst 1, 1), (83, .isub, 1), (84, .putfield 9, 3), (87, .return_, 1)]
set_option maxRecDepth 100000 in
theorem dX0_remove_61_g : dX0_remove_61_l.all (fun x => decide (decode cX0_remove x.1 = .ok x.2)) = true := by decide +kernel
set_option maxRecDepth 100000 in
theorem ggX0_thingsFor_X0_knows : GoodIn wsX0_thingsFor wsX0_knows := goodIn_sub (sub_g [(9, [0, 21, 0, 0, 0])] rfl) gw_X0_knows
set_option maxRecDepth 100000 in
theorem gX0_thingsFor_X0_knows : GoodIn wsX0_thingsFor (wsV RX0 31 RX0 yX0_knows wsX0_knows) := goodIn_app (goodIn_sub (sub_c (nq_m (n := 5) rfl) (sub_c (nq_m (n := 6) rfl) (sub_c (nq_m (n := 7) rfl) (sub_c (nq_m (n := 8) rfl) sub_n)))) (by decide +kernel)) ggX0_thingsFor_X0_knows
set_option maxRecDepth 100000 in
theorem gw_X2_kindOf : wsX2_kindOf.all goodWord = true := by decide +kernel
set_option maxRecDepth 100000 in
theorem ggX0_thingsFor_X2_kindOf : GoodIn wsX0_thingsFor wsX2_kindOf := goodIn_sub (sub_g [(15, [0, 0, 0, 0]), (14, [5, 0, 14, 0, 0, 0, 0, 0, 0, 0])] rfl) gw_X2_kindOf
set_option maxRecDepth 100000 in
theorem gX0_thingsFor_X2_kindOf : GoodIn wsX0_thingsFor (wsV RX0 35 RX2 yX2_kindOf wsX2_kindOf) := goodIn_app (goodIn_sub (sub_c (nq_m (n := 11) rfl) (sub_c (nq_m (n := 12) rfl) (sub_c (nq_m (n := 13) rfl) (sub_c (nq_m (n := 14) rfl) sub_n)))) (by decide +kernel)) ggX0_thingsFor_X2_kindOf
set_option maxRecDepth 100000 in
theorem gw_X2_marksOf : wsX2_marksOf.all goodWord = true := by decide +kernel
set_option maxRecDepth 100000 in
theorem ggX0_thingsFor_X2_marksOf : GoodIn wsX0_thingsFor wsX2_marksOf := goodIn_sub (sub_g [(25, [0]), (17, [0, 0]), (14, [5, 0, 14, 0, 0, 0, 0, 0, 0, 0])] rfl) gw_X2_marksOf
set_option maxRecDepth 100000 in
theorem gX0_thingsFor_X2_marksOf : GoodIn wsX0_thingsFor (wsV RX0 42 RX2 yX2_marksOf wsX2_marksOf) := goodIn_app (goodIn_sub (sub_c (nq_m (n := 22) rfl) (sub_c (nq_m (n := 23) rfl) (sub_c (nq_m (n := 24) rfl) (sub_c (nq_m (n := 14) rfl) sub_n)))) (by decide +kernel)) ggX0_thingsFor_X2_marksOf
set_option maxRecDepth 100000 in
theorem gw_X2_hangs : wsX2_hangs.all goodWord = true := by decide +kernel
set_option maxRecDepth 100000 in
theorem ggX0_thingsFor_X2_hangs : GoodIn wsX0_thingsFor wsX2_hangs := goodIn_sub (sub_g [(30, [0]), (17, [0, 0]), (14, [5, 0, 14, 0, 0, 0, 0, 0, 0, 0])] rfl) gw_X2_hangs
set_option maxRecDepth 100000 in
theorem gX0_thingsFor_X2_hangs : GoodIn wsX0_thingsFor (wsV RX0 45 RX2 yX2_hangs wsX2_hangs) := goodIn_app (goodIn_sub (sub_c (nq_m (n := 27) rfl) (sub_c (nq_m (n := 28) rfl) (sub_c (nq_m (n := 29) rfl) (sub_c (nq_m (n := 14) rfl) sub_n)))) (by decide +kernel)) ggX0_thingsFor_X2_hangs
noncomputable def dX0_thingsFor_0_l : List (Nat × Instr × Nat) := [(0, .aload_n 0, 1), (1, .iload_n 1, 1), (2, .invokevirtual 31, 3), (5, .ifCond .ne 5, 3), (8, .iconst 0, 1), (9, .ireturn, 1), (10, .iconst 0, 1), (11, .istore_n 3, 1), (12, .aload_n 2, 1), (13, .aload_n 0, 1), (14, .getfield 15, 3), (17, .iload_n 1, 1), (18, .iaload, 1), (19, .invokevirtual 35, 3), (22, .istore 4, 2), (24, .iconst 0, 1), (25, .istore 5, 2), (27, .iload 5, 2), (29, .aload_n 2, 1), (30, .getfield 41, 3), (33, .if_icmp .ge 82, 3), (36, .aload_n 0, 1), (37, .getfield 19, 3), (40, .iload_n 1, 1), (41, .iaload, 1), (42, .aload_n 2, 1), (43, .iload 5, 2), (45, .invokevirtual 42, 3), (48, .iconst (-1), 1), (49, .ixor, 1), (50, .iand, 1), (51, .ifCond .ne 23, 3), (54, .aload_n 0, 1), (55, .getfield 22, 3), (58, .iload_n 1, 1), (59, .iaload, 1), (60, .aload_n 2, 1), (61, .iload 5, 2), (63, .invokevirtual 42, 3), (66, .iand, 1)]
set_option maxRecDepth 100000 in
theorem dX0_thingsFor_0_g : dX0_thingsFor_0_l.all (fun x => decide (decode cX0_thingsFor x.1 = .ok x.2)) = true := by decide +kernel
noncomputable def dX0_thingsFor_67_l : List (Nat × Instr × Nat) := [(67, .ifCond .ne 7, 3), (70, .iconst 1, 1), (71, .goto 4, 3), (74, .iconst 0, 1), (75, .istore 6, 2), (77, .iload 6, 2), (79, .ifCond .eq 30, 3), (82, .aload_n 2, 1), (83, .iload 5, 2), (85, .invokevirtual 45, 3), (88, .ifCond .eq 21, 3), (91, .aload_n 2, 1), (92, .iload 5, 2), (94, .invokevirtual 35, 3), (97, .iload 4, 2), (99, .if_icmp .ne 10, 3), (102, .iload_n 3, 1), (103, .iconst 1, 1), (104, .iload 5, 2), (106, .ishl, 1), (107, .ior, 1), (108, .istore_n 3, 1), (109, .iinc 5 1, 3), (112, .goto (-85), 3), (115, .iload_n 3, 1), (116, .ireturn, 1)]
set_option maxRecDepth 100000 in
theorem dX0_thingsFor_67_g : dX0_thingsFor_67_l.all (fun x => decide (decode cX0_thingsFor x.1 = .ok x.2)) = true := by decide +kernel
set_option maxRecDepth 100000 in
theorem gw_X0_thingsFor : wsX0_thingsFor.all goodWord = true := by decide +kernel
set_option maxRecDepth 100000 in
theorem ggX0_fewestAsked_X0_thingsFor : GoodIn wsX0_fewestAsked wsX0_thingsFor := goodIn_sub (sub_g [(5, [0, 0, 0, 0, 0, 0, 0]), (4, [8, 0, 0, 0, 0, 0, 0, 0, 0, 0, 0, 0, 0, 0, 0, 0, 0, 0, 0, 0, 0, 0, 0, 14, 0, 0, 0, 0, 0, 0, 0, 0, 0, 0, 0])] rfl) gw_X0_thingsFor
set_option maxRecDepth 100000 in
theorem gX0_fewestAsked_X0_thingsFor : GoodIn wsX0_fewestAsked (wsV RX0 48 RX0 yX0_thingsFor wsX0_thingsFor) := goodIn_app (goodIn_sub (sub_c (nq_m (n := 1) rfl) (sub_c (nq_m (n := 2) rfl) (sub_c (nq_m (n := 3) rfl) (sub_c (nq_m (n := 4) rfl) sub_n)))) (by decide +kernel)) ggX0_fewestAsked_X0_thingsFor
set_option maxRecDepth 100000 in
theorem gw_X0_guestOf : wsX0_guestOf.all goodWord = true := by decide +kernel
set_option maxRecDepth 100000 in
theorem ggX0_fewestAsked_X0_guestOf : GoodIn wsX0_fewestAsked wsX0_guestOf := goodIn_sub (sub_g [(39, []), (6, [3, 0, 0]), (4, [8, 0, 35, 0, 0, 0])] rfl) gw_X0_guestOf
set_option maxRecDepth 100000 in
theorem gX0_fewestAsked_X0_guestOf : GoodIn wsX0_fewestAsked (wsV RX0 52 RX0 yX0_guestOf wsX0_guestOf) := goodIn_app (goodIn_sub (sub_c (nq_m (n := 36) rfl) (sub_c (nq_m (n := 37) rfl) (sub_c (nq_m (n := 38) rfl) (sub_c (nq_m (n := 4) rfl) sub_n)))) (by decide +kernel)) ggX0_fewestAsked_X0_guestOf
set_option maxRecDepth 100000 in
theorem ggX0_fewestAsked_X2_marksOf : GoodIn wsX0_fewestAsked wsX2_marksOf := goodIn_sub (sub_g [(29, [0]), (21, [0, 0]), (18, [5, 0, 28, 0, 0, 0, 0, 0, 0, 0])] rfl) gw_X2_marksOf
set_option maxRecDepth 100000 in
theorem gX0_fewestAsked_X2_marksOf : GoodIn wsX0_fewestAsked (wsV RX0 42 RX2 yX2_marksOf wsX2_marksOf) := goodIn_app (goodIn_sub (sub_c (nq_m (n := 26) rfl) (sub_c (nq_m (n := 27) rfl) (sub_c (nq_m (n := 28) rfl) (sub_c (nq_m (n := 18) rfl) sub_n)))) (by decide +kernel)) ggX0_fewestAsked_X2_marksOf
set_option maxRecDepth 100000 in
theorem gw_J6_bitCount_0f7a4 : wsJ6_bitCount_0f7a4.all goodWord = true := by decide +kernel
set_option maxRecDepth 100000 in
theorem ggX0_fewestAsked_J6_bitCount_0f7a4 : GoodIn wsX0_fewestAsked wsJ6_bitCount_0f7a4 := goodIn_sub (sub_g [(43, [0, 0, 0])] rfl) gw_J6_bitCount_0f7a4
set_option maxRecDepth 100000 in
theorem gX0_fewestAsked_J6_bitCount_0f7a4 : GoodIn wsX0_fewestAsked (va_wsS RX0 55 yJ6_bitCount_0f7a4 wsJ6_bitCount_0f7a4) := goodIn_app (goodIn_sub (sub_c (nq_m (n := 40) rfl) (sub_c (nq_m (n := 41) rfl) (sub_c (nq_m (n := 42) rfl) sub_n))) (by decide +kernel)) ggX0_fewestAsked_J6_bitCount_0f7a4
set_option maxRecDepth 100000 in
theorem gw_X0_howManyAgree : wsX0_howManyAgree.all goodWord = true := by decide +kernel
set_option maxRecDepth 100000 in
theorem ggX0_fewestAsked_X0_howManyAgree : GoodIn wsX0_fewestAsked wsX0_howManyAgree := goodIn_sub (sub_g [(49, []), (7, [18, 0, 0]), (18, [10, 0]), (21, [0, 0, 0, 0, 28, 0, 0, 0, 0, 0, 0, 0])] rfl) gw_X0_howManyAgree
set_option maxRecDepth 100000 in
theorem gX0_fewestAsked_X0_howManyAgree : GoodIn wsX0_fewestAsked (va_wsS RX0 60 yX0_howManyAgree wsX0_howManyAgree) := goodIn_app (goodIn_sub (sub_c (nq_m (n := 47) rfl) (sub_c (nq_m (n := 48) rfl) (sub_c (nq_m (n := 4) rfl) sub_n))) (by decide +kernel)) ggX0_fewestAsked_X0_howManyAgree
noncomputable def dX0_fewestAsked_0_l : List (Nat × Instr × Nat) := [(0, .aload_n 0, 1), (1, .iload_n 1, 1), (2, .aload_n 2, 1), (3, .invokevirtual 48, 3), (6, .istore_n 3, 1), (7, .aload_n 2, 1), (8, .aload_n 0, 1), (9, .iload_n 1, 1), (10, .invokevirtual 52, 3), (13, .invokevirtual 42, 3), (16, .istore 4, 2), (18, .iconst (-1), 1), (19, .istore 5, 2), (21, .iconst 0, 1), (22, .istore 6, 2), (24, .iload 6, 2), (26, .sipush 255, 3), (29, .if_icmp .gt 57, 3), (32, .iload 5, 2), (34, .iconst (-1), 1), (35, .if_icmp .eq 16, 3), (38, .iload 6, 2), (40, .invokestatic 55, 3), (43, .iload 5, 2), (45, .invokestatic 55, 3), (48, .if_icmp .ge 7, 3), (51, .iconst 1, 1), (52, .goto 4, 3), (55, .iconst 0, 1), (56, .istore 7, 2), (58, .iload 7, 2), (60, .ifCond .eq 20, 3), (63, .iload_n 3, 1), (64, .iload 4, 2), (66, .iload 6, 2), (68, .aload_n 2, 1), (69, .invokestatic 60, 3), (72, .iconst 1, 1), (73, .if_icmp .ne 7, 3), (76, .iload 6, 2)]
set_option maxRecDepth 100000 in
theorem dX0_fewestAsked_0_g : dX0_fewestAsked_0_l.all (fun x => decide (decode cX0_fewestAsked x.1 = .ok x.2)) = true := by decide +kernel
noncomputable def dX0_fewestAsked_78_l : List (Nat × Instr × Nat) := [(78, .istore 5, 2), (80, .iinc 6 1, 3), (83, .goto (-59), 3), (86, .iload 5, 2), (88, .ireturn, 1)]
set_option maxRecDepth 100000 in
theorem dX0_fewestAsked_78_g : dX0_fewestAsked_78_l.all (fun x => decide (decode cX0_fewestAsked x.1 = .ok x.2)) = true := by decide +kernel
set_option maxRecDepth 100000 in
theorem ggX0_howManyAgree_X2_marksOf : GoodIn wsX0_howManyAgree wsX2_marksOf := goodIn_sub (sub_g [(6, [0, 0, 0, 0]), (5, [5, 0, 0, 0, 0, 0, 0, 0, 0, 0])] rfl) gw_X2_marksOf
set_option maxRecDepth 100000 in
theorem gX0_howManyAgree_X2_marksOf : GoodIn wsX0_howManyAgree (wsV RX0 42 RX2 yX2_marksOf wsX2_marksOf) := goodIn_app (goodIn_sub (sub_c (nq_m (n := 2) rfl) (sub_c (nq_m (n := 3) rfl) (sub_c (nq_m (n := 4) rfl) (sub_c (nq_m (n := 5) rfl) sub_n)))) (by decide +kernel)) ggX0_howManyAgree_X2_marksOf
noncomputable def dX0_howManyAgree_0_l : List (Nat × Instr × Nat) := [(0, .iconst 0, 1), (1, .istore 4, 2), (3, .iconst 0, 1), (4, .istore 5, 2), (6, .iload 5, 2), (8, .aload_n 3, 1), (9, .getfield 41, 3), (12, .if_icmp .ge 35, 3), (15, .iload_n 0, 1), (16, .iload 5, 2), (18, .ishr, 1), (19, .iconst 1, 1), (20, .iand, 1), (21, .iconst 1, 1), (22, .if_icmp .ne 19, 3), (25, .aload_n 3, 1), (26, .iload 5, 2), (28, .invokevirtual 42, 3), (31, .iload_n 1, 1), (32, .ixor, 1), (33, .iload_n 2, 1), (34, .iand, 1), (35, .ifCond .ne 6, 3), (38, .iinc 4 1, 3), (41, .iinc 5 1, 3), (44, .goto (-38), 3), (47, .iload 4, 2), (49, .ireturn, 1)]
set_option maxRecDepth 100000 in
theorem dX0_howManyAgree_0_g : dX0_howManyAgree_0_l.all (fun x => decide (decode cX0_howManyAgree x.1 = .ok x.2)) = true := by decide +kernel
noncomputable def dX1_init_0_l : List (Nat × Instr × Nat) := [(0, .aload_n 0, 1), (1, .invokespecial 3, 3), (4, .aload_n 0, 1), (5, .iconst 0, 1), (6, .putfield 9, 3), (9, .aload_n 0, 1), (10, .sipush 420, 3), (13, .newarray .int, 2), (15, .putfield 15, 3), (18, .return_, 1)]
set_option maxRecDepth 100000 in
theorem dX1_init_0_g : dX1_init_0_l.all (fun x => decide (decode cX1_init x.1 = .ok x.2)) = true := by decide +kernel
noncomputable def dX1_copyFrom_0_l : List (Nat × Instr × Nat) := [(0, .aload_n 0, 1), (1, .aload_n 1, 1), (2, .getfield 9, 3), (5, .putfield 9, 3), (8, .aload_n 1, 1), (9, .getfield 15, 3), (12, .iconst 0, 1), (13, .aload_n 0, 1), (14, .getfield 15, 3), (17, .iconst 0, 1), (18, .aload_n 0, 1), (19, .getfield 15, 3), (22, .arraylength, 1), (23, .invokestatic 19, 3), (26, .return_, 1)]
set_option maxRecDepth 100000 in
theorem dX1_copyFrom_0_g : dX1_copyFrom_0_l.all (fun x => decide (decode cX1_copyFrom x.1 = .ok x.2)) = true := by decide +kernel
noncomputable def dX1_knows_0_l : List (Nat × Instr × Nat) := [(0, .iload_n 1, 1), (1, .ifCond .lt 21, 3), (4, .iload_n 1, 1), (5, .aload_n 0, 1), (6, .getfield 9, 3), (9, .if_icmp .ge 13, 3), (12, .iload_n 1, 1), (13, .bipush 60, 2), (15, .if_icmp .ge 7, 3), (18, .iconst 1, 1), (19, .goto 4, 3), (22, .iconst 0, 1), (23, .ireturn, 1)]
set_option maxRecDepth 100000 in
theorem dX1_knows_0_g : dX1_knows_0_l.all (fun x => decide (decode cX1_knows x.1 = .ok x.2)) = true := by decide +kernel
noncomputable def dX1_isFull_0_l : List (Nat × Instr × Nat) := [(0, .aload_n 0, 1), (1, .getfield 9, 3), (4, .bipush 60, 2), (6, .if_icmp .lt 7, 3), (9, .iconst 1, 1), (10, .goto 4, 3), (13, .iconst 0, 1), (14, .ireturn, 1)]
set_option maxRecDepth 100000 in
theorem dX1_isFull_0_g : dX1_isFull_0_l.all (fun x => decide (decode cX1_isFull x.1 = .ok x.2)) = true := by decide +kernel
set_option maxRecDepth 100000 in
theorem gw_X1_isFull : wsX1_isFull.all goodWord = true := by decide +kernel
set_option maxRecDepth 100000 in
theorem ggX1_add_X1_isFull : GoodIn wsX1_add wsX1_isFull := goodIn_sub (sub_g [(7, []), (1, [6, 0])] rfl) gw_X1_isFull
set_option maxRecDepth 100000 in
theorem gX1_add_X1_isFull : GoodIn wsX1_add (wsV RX1 25 RX1 yX1_isFull wsX1_isFull) := goodIn_app (goodIn_sub (sub_c (nq_m (n := 3) rfl) (sub_c (nq_m (n := 4) rfl) (sub_c (nq_m (n := 5) rfl) (sub_c (nq_m (n := 6) rfl) sub_n)))) (by decide +kernel)) ggX1_add_X1_isFull
noncomputable def dX1_add_0_l : List (Nat × Instr × Nat) := [(0, .aload_n 0, 1), (1, .getfield 9, 3), (4, .ifCond .lt 10, 3), (7, .aload_n 0, 1), (8, .invokevirtual 25, 3), (11, .ifCond .eq 7, 3), (14, .sipush (-1004), 3), (17, .ireturn, 1), (18, .aload_n 0, 1), (19, .getfield 9, 3), (22, .istore 7, 2), (24, .iload 7, 2), (26, .bipush 7, 2), (28, .imul, 1), (29, .istore 8, 2), (31, .aload_n 0, 1), (32, .getfield 15, 3), (35, .iload 8, 2), (37, .iload_n 1, 1), (38, .iastore, 1), (39, .aload_n 0, 1), (40, .getfield 15, 3), (43, .iload 8, 2), (45, .iconst 1, 1), (46, .iadd, 1), (47, .iload_n 2, 1), (48, .iastore, 1), (49, .aload_n 0, 1), (50, .getfield 15, 3), (53, .iload 8, 2), (55, .iconst 2, 1), (56, .iadd, 1), (57, .iload_n 3, 1), (58, .iastore, 1), (59, .aload_n 0, 1), (60, .getfield 15, 3), (63, .iload 8, 2), (65, .iconst 3, 1), (66, .iadd, 1), (67, .iload 4, 2)]
set_option maxRecDepth 100000 in
theorem dX1_add_0_g : dX1_add_0_l.all (fun x => decide (decode cX1_add x.1 = .ok x.2)) = true := by decide +kernel
noncomputable def dX1_add_69_l : List (Nat × Instr × Nat) := [(69, .iastore, 1), (70, .aload_n 0, 1), (71, .getfield 15, 3), (74, .iload 8, 2), (76, .iconst 4, 1), (77, .iadd, 1), (78, .iload 5, 2), (80, .iastore, 1), (81, .aload_n 0, 1), (82, .getfield 15, 3), (85, .iload 8, 2), (87, .iconst 5, 1), (88, .iadd, 1), (89, .iload 6, 2), (91, .iastore, 1), (92, .aload_n 0, 1), (93, .getfield 15, 3), (96, .iload 8, 2), (98, .bipush 6, 2), (100, .iadd, 1), (101, .iload_n 1, 1), (102, .iconst 2, 1), (103, .if_icmp .eq 14, 3), (106, .iload 4, 2), (108, .iload 5, 2), (110, .if_icmp .eq 7, 3), (113, .iconst 1, 1), (114, .goto 4, 3), (117, .iconst 0, 1), (118, .iastore, 1), (119, .aload_n 0, 1), (120, .dup, 1), (121, .getfield 9, 3), (124, .iconst 1, 1), (125, .iadd, 1), (126, .putfield 9, 3), (129, .iload 7, 2), (131, .ireturn, 1)]
set_option maxRecDepth 100000 in
theorem dX1_add_69_g : dX1_add_69_l.all (fun x => decide (decode cX1_add x.1 = .ok x.2)) = true := by decide +kernel
set_option maxRecDepth 100000 in
theorem gw_X1_knows : wsX1_knows.all goodWord = true := by decide +kernel
set_option maxRecDepth 100000 in
theorem ggX1_factOf_X1_knows : GoodIn wsX1_factOf wsX1_knows := goodIn_sub (sub_g [(6, [0, 3, 0])] rfl) gw_X1_knows
set_option maxRecDepth 100000 in
theorem gX1_factOf_X1_knows : GoodIn wsX1_factOf (wsV RX1 29 RX1 yX1_knows wsX1_knows) := goodIn_app (goodIn_sub (sub_c (nq_m (n := 2) rfl) (sub_c (nq_m (n := 3) rfl) (sub_c (nq_m (n := 4) rfl) (sub_c (nq_m (n := 5) rfl) sub_n)))) (by decide +kernel)) ggX1_factOf_X1_knows
set_option maxRecDepth 100000 in
theorem gw_X10_within : wsX10_within.all goodWord = true := by decide +kernel
set_option maxRecDepth 100000 in
theorem ggX1_factOf_X10_within : GoodIn wsX1_factOf wsX10_within := goodIn_sub (sub_c (nq_m (n := 10) rfl) sub_n) gw_X10_within
set_option maxRecDepth 100000 in
theorem gX1_factOf_X10_within_n33 : GoodIn wsX1_factOf (wsX10_within) := ggX1_factOf_X10_within
noncomputable def dX1_factOf_0_l : List (Nat × Instr × Nat) := [(0, .aload_n 0, 1), (1, .iload_n 1, 1), (2, .invokevirtual 29, 3), (5, .ifCond .eq 13, 3), (8, .iload_n 2, 1), (9, .iconst 0, 1), (10, .bipush 6, 2), (12, .invokestatic 33, 3), (15, .ifCond .ne 5, 3), (18, .iconst (-1), 1), (19, .ireturn, 1), (20, .aload_n 0, 1), (21, .getfield 15, 3), (24, .iload_n 1, 1), (25, .bipush 7, 2), (27, .imul, 1), (28, .iload_n 2, 1), (29, .iadd, 1), (30, .iaload, 1), (31, .ireturn, 1)]
set_option maxRecDepth 100000 in
theorem dX1_factOf_0_g : dX1_factOf_0_l.all (fun x => decide (decode cX1_factOf x.1 = .ok x.2)) = true := by decide +kernel
set_option maxRecDepth 100000 in
theorem gw_X1_factOf : wsX1_factOf.all goodWord = true := by decide +kernel
set_option maxRecDepth 100000 in
theorem ggX1_find_X1_factOf : GoodIn wsX1_find wsX1_factOf := goodIn_sub (sub_g [(6, [0, 0, 0, 0]), (5, [5]), (1, [10, 0, 0, 0, 0])] rfl) gw_X1_factOf
set_option maxRecDepth 100000 in
theorem gX1_find_X1_factOf : GoodIn wsX1_find (wsV RX1 37 RX1 yX1_factOf wsX1_factOf) := goodIn_app (goodIn_sub (sub_c (nq_m (n := 2) rfl) (sub_c (nq_m (n := 3) rfl) (sub_c (nq_m (n := 4) rfl) (sub_c (nq_m (n := 5) rfl) sub_n)))) (by decide +kernel)) ggX1_find_X1_factOf
noncomputable def dX1_find_0_l : List (Nat × Instr × Nat) := [(0, .iconst 0, 1), (1, .istore_n 3, 1), (2, .iload_n 3, 1), (3, .aload_n 0, 1), (4, .getfield 9, 3), (7, .if_icmp .ge 31, 3), (10, .aload_n 0, 1), (11, .iload_n 3, 1), (12, .iconst 0, 1), (13, .invokevirtual 37, 3), (16, .iload_n 1, 1), (17, .if_icmp .ne 15, 3), (20, .aload_n 0, 1), (21, .iload_n 3, 1), (22, .iconst 5, 1), (23, .invokevirtual 37, 3), (26, .iload_n 2, 1), (27, .if_icmp .ne 5, 3), (30, .iload_n 3, 1), (31, .ireturn, 1), (32, .iinc 3 1, 3), (35, .goto (-33), 3), (38, .iconst (-1), 1), (39, .ireturn, 1)]
set_option maxRecDepth 100000 in
theorem dX1_find_0_g : dX1_find_0_l.all (fun x => decide (decode cX1_find x.1 = .ok x.2)) = true := by decide +kernel
set_option maxRecDepth 100000 in
theorem ggX1_wasWrong_X1_factOf : GoodIn wsX1_wasWrong wsX1_factOf := goodIn_sub (sub_g [(5, [0, 0, 0, 0]), (4, [5, 0, 0, 0, 0, 0, 0])] rfl) gw_X1_factOf
set_option maxRecDepth 100000 in
theorem gX1_wasWrong_X1_factOf : GoodIn wsX1_wasWrong (wsV RX1 37 RX1 yX1_factOf wsX1_factOf) := goodIn_app (goodIn_sub (sub_c (nq_m (n := 1) rfl) (sub_c (nq_m (n := 2) rfl) (sub_c (nq_m (n := 3) rfl) (sub_c (nq_m (n := 4) rfl) sub_n)))) (by decide +kernel)) ggX1_wasWrong_X1_factOf
noncomputable def dX1_wasWrong_0_l : List (Nat × Instr × Nat) := [(0, .aload_n 0, 1), (1, .iload_n 1, 1), (2, .bipush 6, 2), (4, .invokevirtual 37, 3), (7, .iconst 1, 1), (8, .if_icmp .ne 7, 3), (11, .iconst 1, 1), (12, .goto 4, 3), (15, .iconst 0, 1), (16, .ireturn, 1)]
set_option maxRecDepth 100000 in
theorem dX1_wasWrong_0_g : dX1_wasWrong_0_l.all (fun x => decide (decode cX1_wasWrong x.1 = .ok x.2)) = true := by decide +kernel
set_option maxRecDepth 100000 in
theorem gw_X1_find : wsX1_find.all goodWord = true := by decide +kernel
set_option maxRecDepth 100000 in
theorem ggX1_firstWrong_X1_find : GoodIn wsX1_firstWrong wsX1_find := goodIn_sub (sub_g [(5, [0, 0, 0, 0]), (4, [5, 0, 0, 0, 0, 0, 0, 0, 0, 4, 0])] rfl) gw_X1_find
set_option maxRecDepth 100000 in
theorem gX1_firstWrong_X1_find : GoodIn wsX1_firstWrong (wsV RX1 41 RX1 yX1_find wsX1_find) := goodIn_app (goodIn_sub (sub_c (nq_m (n := 1) rfl) (sub_c (nq_m (n := 2) rfl) (sub_c (nq_m (n := 3) rfl) (sub_c (nq_m (n := 4) rfl) sub_n)))) (by decide +kernel)) ggX1_firstWrong_X1_find
set_option maxRecDepth 100000 in
theorem gw_X1_wasWrong : wsX1_wasWrong.all goodWord = true := by decide +kernel
set_option maxRecDepth 100000 in
theorem ggX1_firstWrong_X1_wasWrong : GoodIn wsX1_firstWrong wsX1_wasWrong := goodIn_sub (sub_g [(22, []), (7, [0, 0]), (4, [5, 0, 0, 0, 0, 0]), (6, [9, 0, 0, 4, 0])] rfl) gw_X1_wasWrong
set_option maxRecDepth 100000 in
theorem gX1_firstWrong_X1_wasWrong : GoodIn wsX1_firstWrong (wsV RX1 44 RX1 yX1_wasWrong wsX1_wasWrong) := goodIn_app (goodIn_sub (sub_c (nq_m (n := 19) rfl) (sub_c (nq_m (n := 20) rfl) (sub_c (nq_m (n := 21) rfl) (sub_c (nq_m (n := 4) rfl) sub_n)))) (by decide +kernel)) ggX1_firstWrong_X1_wasWrong
set_option maxRecDepth 100000 in
theorem ggX1_firstWrong_X1_factOf : GoodIn wsX1_firstWrong wsX1_factOf := goodIn_sub (sub_g [(10, [0, 0, 0, 0]), (4, [10]), (6, [9, 0, 0, 4, 0])] rfl) gw_X1_factOf
set_option maxRecDepth 100000 in
theorem gX1_firstWrong_X1_factOf : GoodIn wsX1_firstWrong (wsV RX1 37 RX1 yX1_factOf wsX1_factOf) := goodIn_app (goodIn_sub (sub_c (nq_m (n := 7) rfl) (sub_c (nq_m (n := 8) rfl) (sub_c (nq_m (n := 9) rfl) (sub_c (nq_m (n := 4) rfl) sub_n)))) (by decide +kernel)) ggX1_firstWrong_X1_factOf
noncomputable def dX1_firstWrong_0_l : List (Nat × Instr × Nat) := [(0, .aload_n 0, 1), (1, .iconst 0, 1), (2, .iload_n 1, 1), (3, .invokevirtual 41, 3), (6, .istore_n 2, 1), (7, .aload_n 0, 1), (8, .iload_n 2, 1), (9, .invokevirtual 44, 3), (12, .ifCond .eq 5, 3), (15, .iload_n 2, 1), (16, .ireturn, 1), (17, .aload_n 0, 1), (18, .iconst 1, 1), (19, .iload_n 1, 1), (20, .invokevirtual 41, 3), (23, .istore_n 3, 1), (24, .iload_n 3, 1), (25, .iconst (-1), 1), (26, .if_icmp .ne 5, 3), (29, .iconst (-1), 1), (30, .ireturn, 1), (31, .aload_n 0, 1), (32, .iload_n 3, 1), (33, .invokevirtual 44, 3), (36, .ifCond .eq 5, 3), (39, .iload_n 3, 1), (40, .ireturn, 1), (41, .aload_n 0, 1), (42, .iconst 0, 1), (43, .aload_n 0, 1), (44, .iload_n 3, 1), (45, .iconst 2, 1), (46, .invokevirtual 37, 3), (49, .invokevirtual 41, 3), (52, .istore 4, 2), (54, .aload_n 0, 1), (55, .iload 4, 2), (57, .invokevirtual 44, 3), (60, .ifCond .eq 8, 3), (63, .iload 4, 2)]
set_option maxRecDepth 100000 in
theorem dX1_firstWrong_0_g : dX1_firstWrong_0_l.all (fun x => decide (decode cX1_firstWrong x.1 = .ok x.2)) = true := by decide +kernel
noncomputable def dX1_firstWrong_65_l : List (Nat × Instr × Nat) := [(65, .goto 4, 3), (68, .iconst (-1), 1), (69, .ireturn, 1)]
set_option maxRecDepth 100000 in
theorem dX1_firstWrong_65_g : dX1_firstWrong_65_l.all (fun x => decide (decode cX1_firstWrong x.1 = .ok x.2)) = true := by decide +kernel
noncomputable def dX2_init_0_l : List (Nat × Instr × Nat) := [(0, .aload_n 0, 1), (1, .invokespecial 3, 3), (4, .aload_n 0, 1), (5, .iconst 0, 1), (6, .putfield 9, 3), (9, .aload_n 0, 1), (10, .bipush 16, 2), (12, .newarray .int, 2), (14, .putfield 15, 3), (17, .aload_n 0, 1), (18, .bipush 16, 2), (20, .newarray .int, 2), (22, .putfield 19, 3), (25, .aload_n 0, 1), (26, .bipush 16, 2), (28, .newarray .int, 2), (30, .putfield 22, 3), (33, .aload_n 0, 1), (34, .bipush 16, 2), (36, .newarray .int, 2), (38, .putfield 25, 3), (41, .aload_n 0, 1), (42, .bipush 16, 2), (44, .newarray .int, 2), (46, .putfield 28, 3), (49, .aload_n 0, 1), (50, .bipush 16, 2), (52, .newarray .int, 2), (54, .putfield 31, 3), (57, .aload_n 0, 1), (58, .bipush 16, 2), (60, .newarray .int, 2), (62, .putfield 34, 3), (65, .return_, 1)]
set_option maxRecDepth 100000 in
theorem dX2_init_0_g : dX2_init_0_l.all (fun x => decide (decode cX2_init x.1 = .ok x.2)) = true := by decide +kernel
noncomputable def dX2_copyFrom_0_l : List (Nat × Instr × Nat) := [(0, .aload_n 0, 1), (1, .aload_n 1, 1), (2, .getfield 9, 3), (5, .putfield 9, 3), (8, .aload_n 1, 1), (9, .getfield 15, 3), (12, .iconst 0, 1), (13, .aload_n 0, 1), (14, .getfield 15, 3), (17, .iconst 0, 1), (18, .bipush 16, 2), (20, .invokestatic 37, 3), (23, .aload_n 1, 1), (24, .getfield 19, 3), (27, .iconst 0, 1), (28, .aload_n 0, 1), (29, .getfield 19, 3), (32, .iconst 0, 1), (33, .bipush 16, 2), (35, .invokestatic 37, 3), (38, .aload_n 1, 1), (39, .getfield 22, 3), (42, .iconst 0, 1), (43, .aload_n 0, 1), (44, .getfield 22, 3), (47, .iconst 0, 1), (48, .bipush 16, 2), (50, .invokestatic 37, 3), (53, .aload_n 1, 1), (54, .getfield 25, 3), (57, .iconst 0, 1), (58, .aload_n 0, 1), (59, .getfield 25, 3), (62, .iconst 0, 1), (63, .bipush 16, 2), (65, .invokestatic 37, 3), (68, .aload_n 1, 1), (69, .getfield 28, 3), (72, .iconst 0, 1), (73, .aload_n 0, 1)]
set_option maxRecDepth 100000 in
theorem dX2_copyFrom_0_g : dX2_copyFrom_0_l.all (fun x => decide (decode cX2_copyFrom x.1 = .ok x.2)) = true := by decide +kernel
noncomputable def dX2_copyFrom_74_l : List (Nat × Instr × Nat) := [(74, .getfield 28, 3), (77, .iconst 0, 1), (78, .bipush 16, 2), (80, .invokestatic 37, 3), (83, .aload_n 1, 1), (84, .getfield 31, 3), (87, .iconst 0, 1), (88, .aload_n 0, 1), (89, .getfield 31, 3), (92, .iconst 0, 1), (93, .bipush 16, 2), (95, .invokestatic 37, 3), (98, .aload_n 1, 1), (99, .getfield 34, 3), (102, .iconst 0, 1), (103, .aload_n 0, 1), (104, .getfield 34, 3), (107, .iconst 0, 1), (108, .bipush 16, 2), (110, .invokestatic 37, 3), (113, .return_, 1)]
set_option maxRecDepth 100000 in
theorem dX2_copyFrom_74_g : dX2_copyFrom_74_l.all (fun x => decide (decode cX2_copyFrom x.1 = .ok x.2)) = true := by decide +kernel
noncomputable def dX2_knows_0_l : List (Nat × Instr × Nat) := [(0, .iload_n 1, 1), (1, .ifCond .lt 21, 3), (4, .iload_n 1, 1), (5, .aload_n 0, 1), (6, .getfield 9, 3), (9, .if_icmp .ge 13, 3), (12, .iload_n 1, 1), (13, .bipush 16, 2), (15, .if_icmp .ge 7, 3), (18, .iconst 1, 1), (19, .goto 4, 3), (22, .iconst 0, 1), (23, .ireturn, 1)]
set_option maxRecDepth 100000 in
theorem dX2_knows_0_g : dX2_knows_0_l.all (fun x => decide (decode cX2_knows x.1 = .ok x.2)) = true := by decide +kernel
noncomputable def dX2_add_0_l : List (Nat × Instr × Nat) := [(0, .aload_n 0, 1), (1, .getfield 9, 3), (4, .istore 5, 2), (6, .iload 5, 2), (8, .ifCond .lt 10, 3), (11, .iload 5, 2), (13, .bipush 16, 2), (15, .if_icmp .lt 7, 3), (18, .sipush (-1004), 3), (21, .ireturn, 1), (22, .aload_n 0, 1), (23, .getfield 15, 3), (26, .iload 5, 2), (28, .iload_n 1, 1), (29, .iastore, 1), (30, .aload_n 0, 1), (31, .getfield 19, 3), (34, .iload 5, 2), (36, .iload_n 2, 1), (37, .iastore, 1), (38, .aload_n 0, 1), (39, .getfield 22, 3), (42, .iload 5, 2), (44, .iload_n 3, 1), (45, .iastore, 1), (46, .aload_n 0, 1), (47, .getfield 25, 3), (50, .iload 5, 2), (52, .iload 4, 2), (54, .iastore, 1), (55, .aload_n 0, 1), (56, .getfield 28, 3), (59, .iload 5, 2), (61, .iconst (-1), 1), (62, .iastore, 1), (63, .aload_n 0, 1), (64, .getfield 31, 3), (67, .iload 5, 2), (69, .iconst (-1), 1), (70, .iastore, 1)]
set_option maxRecDepth 100000 in
theorem dX2_add_0_g : dX2_add_0_l.all (fun x => decide (decode cX2_add x.1 = .ok x.2)) = true := by decide +kernel
noncomputable def dX2_add_71_l : List (Nat × Instr × Nat) := [(71, .aload_n 0, 1), (72, .getfield 34, 3), (75, .iload 5, 2), (77, .iconst (-1), 1), (78, .iastore, 1), (79, .aload_n 0, 1), (80, .dup, 1), (81, .getfield 9, 3), (84, .iconst 1, 1), (85, .iadd, 1), (86, .putfield 9, 3), (89, .iload 5, 2), (91, .ireturn, 1)]
set_option maxRecDepth 100000 in
theorem dX2_add_71_g : dX2_add_71_l.all (fun x => decide (decode cX2_add x.1 = .ok x.2)) = true := by decide +kernel
set_option maxRecDepth 100000 in
theorem gw_X2_knows : wsX2_knows.all goodWord = true := by decide +kernel
set_option maxRecDepth 100000 in
theorem ggX2_kindOf_X2_knows : GoodIn wsX2_kindOf wsX2_knows := goodIn_sub (sub_g [(6, [0, 0, 0, 0, 0, 0, 0, 0, 0])] rfl) gw_X2_knows
set_option maxRecDepth 100000 in
theorem gX2_kindOf_X2_knows : GoodIn wsX2_kindOf (wsV RX2 43 RX2 yX2_knows wsX2_knows) := goodIn_app (goodIn_sub (sub_c (nq_m (n := 2) rfl) (sub_c (nq_m (n := 3) rfl) (sub_c (nq_m (n := 4) rfl) (sub_c (nq_m (n := 5) rfl) sub_n)))) (by decide +kernel)) ggX2_kindOf_X2_knows
noncomputable def dX2_kindOf_0_l : List (Nat × Instr × Nat) := [(0, .aload_n 0, 1), (1, .iload_n 1, 1), (2, .invokevirtual 43, 3), (5, .ifCond .eq 12, 3), (8, .aload_n 0, 1), (9, .getfield 19, 3), (12, .iload_n 1, 1), (13, .iaload, 1), (14, .goto 4, 3), (17, .iconst (-1), 1), (18, .ireturn, 1)]
set_option maxRecDepth 100000 in
theorem dX2_kindOf_0_g : dX2_kindOf_0_l.all (fun x => decide (decode cX2_kindOf x.1 = .ok x.2)) = true := by decide +kernel
set_option maxRecDepth 100000 in
theorem ggX2_marksOf_X2_knows : GoodIn wsX2_marksOf wsX2_knows := goodIn_sub (sub_g [(6, [0, 0, 0, 0, 0, 0, 0, 0, 0])] rfl) gw_X2_knows
set_option maxRecDepth 100000 in
theorem gX2_marksOf_X2_knows : GoodIn wsX2_marksOf (wsV RX2 43 RX2 yX2_knows wsX2_knows) := goodIn_app (goodIn_sub (sub_c (nq_m (n := 2) rfl) (sub_c (nq_m (n := 3) rfl) (sub_c (nq_m (n := 4) rfl) (sub_c (nq_m (n := 5) rfl) sub_n)))) (by decide +kernel)) ggX2_marksOf_X2_knows
noncomputable def dX2_marksOf_0_l : List (Nat × Instr × Nat) := [(0, .aload_n 0, 1), (1, .iload_n 1, 1), (2, .invokevirtual 43, 3), (5, .ifCond .eq 12, 3), (8, .aload_n 0, 1), (9, .getfield 25, 3), (12, .iload_n 1, 1), (13, .iaload, 1), (14, .goto 4, 3), (17, .iconst 0, 1), (18, .ireturn, 1)]
set_option maxRecDepth 100000 in
theorem dX2_marksOf_0_g : dX2_marksOf_0_l.all (fun x => decide (decode cX2_marksOf x.1 = .ok x.2)) = true := by decide +kernel
set_option maxRecDepth 100000 in
theorem ggX2_hangs_X2_knows : GoodIn wsX2_hangs wsX2_knows := goodIn_sub (sub_g [(6, [0, 0, 0, 0, 0, 0, 0, 0, 0])] rfl) gw_X2_knows
set_option maxRecDepth 100000 in
theorem gX2_hangs_X2_knows : GoodIn wsX2_hangs (wsV RX2 43 RX2 yX2_knows wsX2_knows) := goodIn_app (goodIn_sub (sub_c (nq_m (n := 2) rfl) (sub_c (nq_m (n := 3) rfl) (sub_c (nq_m (n := 4) rfl) (sub_c (nq_m (n := 5) rfl) sub_n)))) (by decide +kernel)) ggX2_hangs_X2_knows
noncomputable def dX2_hangs_0_l : List (Nat × Instr × Nat) := [(0, .aload_n 0, 1), (1, .iload_n 1, 1), (2, .invokevirtual 43, 3), (5, .ifCond .eq 17, 3), (8, .aload_n 0, 1), (9, .getfield 31, 3), (12, .iload_n 1, 1), (13, .iaload, 1), (14, .iconst (-1), 1), (15, .if_icmp .eq 7, 3), (18, .iconst 1, 1), (19, .goto 4, 3), (22, .iconst 0, 1), (23, .ireturn, 1)]
set_option maxRecDepth 100000 in
theorem dX2_hangs_0_g : dX2_hangs_0_l.all (fun x => decide (decode cX2_hangs x.1 = .ok x.2)) = true := by decide +kernel
noncomputable def dX2_ownerOn_0_l : List (Nat × Instr × Nat) := [(0, .iconst 0, 1), (1, .istore_n 2, 1), (2, .iload_n 2, 1), (3, .aload_n 0, 1), (4, .getfield 9, 3), (7, .if_icmp .ge 21, 3), (10, .aload_n 0, 1), (11, .getfield 31, 3), (14, .iload_n 2, 1), (15, .iaload, 1), (16, .iload_n 1, 1), (17, .if_icmp .ne 5, 3), (20, .iload_n 2, 1), (21, .ireturn, 1), (22, .iinc 2 1, 3), (25, .goto (-23), 3), (28, .iconst (-1), 1), (29, .ireturn, 1)]
set_option maxRecDepth 100000 in
theorem dX2_ownerOn_0_g : dX2_ownerOn_0_l.all (fun x => decide (decode cX2_ownerOn x.1 = .ok x.2)) = true := by decide +kernel
noncomputable def dX2_holderOf_0_l : List (Nat × Instr × Nat) := [(0, .iconst 0, 1), (1, .istore_n 2, 1), (2, .iload_n 2, 1), (3, .aload_n 0, 1), (4, .getfield 9, 3), (7, .if_icmp .ge 21, 3), (10, .aload_n 0, 1), (11, .getfield 34, 3), (14, .iload_n 2, 1), (15, .iaload, 1), (16, .iload_n 1, 1), (17, .if_icmp .ne 5, 3), (20, .iload_n 2, 1), (21, .ireturn, 1), (22, .iinc 2 1, 3), (25, .goto (-23), 3), (28, .iconst (-1), 1), (29, .ireturn, 1)]
set_option maxRecDepth 100000 in
theorem dX2_holderOf_0_g : dX2_holderOf_0_l.all (fun x => decide (decode cX2_holderOf x.1 = .ok x.2)) = true := by decide +kernel
noncomputable def dX2_brassIsOut_0_l : List (Nat × Instr × Nat) := [(0, .iconst 0, 1), (1, .istore_n 2, 1), (2, .iload_n 2, 1), (3, .aload_n 0, 1), (4, .getfield 9, 3), (7, .if_icmp .ge 21, 3), (10, .aload_n 0, 1), (11, .getfield 28, 3), (14, .iload_n 2, 1), (15, .iaload, 1), (16, .iload_n 1, 1), (17, .if_icmp .ne 5, 3), (20, .iconst 1, 1), (21, .ireturn, 1), (22, .iinc 2 1, 3), (25, .goto (-23), 3), (28, .iconst 0, 1), (29, .ireturn, 1)]
set_option maxRecDepth 100000 in
theorem dX2_brassIsOut_0_g : dX2_brassIsOut_0_l.all (fun x => decide (decode cX2_brassIsOut x.1 = .ok x.2)) = true := by decide +kernel
set_option maxRecDepth 100000 in
theorem ggX2_handOver_X2_knows : GoodIn wsX2_handOver wsX2_knows := goodIn_sub (sub_g [(7, [0, 0, 0, 0, 0, 0, 0, 0, 0])] rfl) gw_X2_knows
set_option maxRecDepth 100000 in
theorem gX2_handOver_X2_knows : GoodIn wsX2_handOver (wsV RX2 43 RX2 yX2_knows wsX2_knows) := goodIn_app (goodIn_sub (sub_c (nq_m (n := 3) rfl) (sub_c (nq_m (n := 4) rfl) (sub_c (nq_m (n := 5) rfl) (sub_c (nq_m (n := 6) rfl) sub_n)))) (by decide +kernel)) ggX2_handOver_X2_knows
noncomputable def dX2_handOver_0_l : List (Nat × Instr × Nat) := [(0, .aload_n 0, 1), (1, .iload_n 1, 1), (2, .invokevirtual 43, 3), (5, .ifCond .eq 11, 3), (8, .aload_n 0, 1), (9, .iload_n 2, 1), (10, .invokevirtual 43, 3), (13, .ifCond .ne 4, 3), (16, .return_, 1), (17, .aload_n 0, 1), (18, .getfield 31, 3), (21, .iload_n 1, 1), (22, .iconst (-1), 1), (23, .iastore, 1), (24, .aload_n 0, 1), (25, .getfield 34, 3), (28, .iload_n 2, 1), (29, .iload_n 1, 1), (30, .iastore, 1), (31, .return_, 1)]
set_option maxRecDepth 100000 in
theorem dX2_handOver_0_g : dX2_handOver_0_l.all (fun x => decide (decode cX2_handOver x.1 = .ok x.2)) = true := by decide +kernel
set_option maxRecDepth 100000 in
theorem ggX2_isAstray_X2_knows : GoodIn wsX2_isAstray wsX2_knows := goodIn_sub (sub_g [(6, [0, 0, 0, 0, 0, 0, 0, 0, 0])] rfl) gw_X2_knows
set_option maxRecDepth 100000 in
theorem gX2_isAstray_X2_knows : GoodIn wsX2_isAstray (wsV RX2 43 RX2 yX2_knows wsX2_knows) := goodIn_app (goodIn_sub (sub_c (nq_m (n := 2) rfl) (sub_c (nq_m (n := 3) rfl) (sub_c (nq_m (n := 4) rfl) (sub_c (nq_m (n := 5) rfl) sub_n)))) (by decide +kernel)) ggX2_isAstray_X2_knows
noncomputable def dX2_isAstray_0_l : List (Nat × Instr × Nat) := [(0, .aload_n 0, 1), (1, .iload_n 1, 1), (2, .invokevirtual 43, 3), (5, .ifCond .eq 27, 3), (8, .aload_n 0, 1), (9, .getfield 34, 3), (12, .iload_n 1, 1), (13, .iaload, 1), (14, .iconst (-1), 1), (15, .if_icmp .eq 17, 3), (18, .aload_n 0, 1), (19, .getfield 34, 3), (22, .iload_n 1, 1), (23, .iaload, 1), (24, .iload_n 1, 1), (25, .if_icmp .eq 7, 3), (28, .iconst 1, 1), (29, .goto 4, 3), (32, .iconst 0, 1), (33, .ireturn, 1)]
set_option maxRecDepth 100000 in
theorem dX2_isAstray_0_g : dX2_isAstray_0_l.all (fun x => decide (decode cX2_isAstray x.1 = .ok x.2)) = true := by decide +kernel
set_option maxRecDepth 100000 in
theorem ggX2_nextInChain_X2_knows : GoodIn wsX2_nextInChain wsX2_knows := goodIn_sub (sub_g [(6, [0, 0, 0, 0, 0, 0, 0, 0, 0])] rfl) gw_X2_knows
set_option maxRecDepth 100000 in
theorem gX2_nextInChain_X2_knows : GoodIn wsX2_nextInChain (wsV RX2 43 RX2 yX2_knows wsX2_knows) := goodIn_app (goodIn_sub (sub_c (nq_m (n := 2) rfl) (sub_c (nq_m (n := 3) rfl) (sub_c (nq_m (n := 4) rfl) (sub_c (nq_m (n := 5) rfl) sub_n)))) (by decide +kernel)) ggX2_nextInChain_X2_knows
noncomputable def dX2_nextInChain_0_l : List (Nat × Instr × Nat) := [(0, .aload_n 0, 1), (1, .iload_n 2, 1), (2, .invokevirtual 43, 3), (5, .ifCond .eq 22, 3), (8, .aload_n 0, 1), (9, .getfield 34, 3), (12, .iload_n 2, 1), (13, .iaload, 1), (14, .iload_n 1, 1), (15, .if_icmp .eq 12, 3), (18, .aload_n 0, 1), (19, .getfield 34, 3), (22, .iload_n 2, 1), (23, .iaload, 1), (24, .goto 4, 3), (27, .iconst (-1), 1), (28, .ireturn, 1)]
set_option maxRecDepth 100000 in
theorem dX2_nextInChain_0_g : dX2_nextInChain_0_l.all (fun x => decide (decode cX2_nextInChain x.1 = .ok x.2)) = true := by decide +kernel
set_option maxRecDepth 100000 in
theorem gw_X2_nextInChain : wsX2_nextInChain.all goodWord = true := by decide +kernel
set_option maxRecDepth 100000 in
theorem ggX2_chainLength_X2_nextInChain : GoodIn wsX2_chainLength wsX2_nextInChain := goodIn_sub (sub_g [(5, [0, 0, 0, 0]), (4, [5, 0, 0, 0, 0, 0, 0, 0, 0, 0])] rfl) gw_X2_nextInChain
set_option maxRecDepth 100000 in
theorem gX2_chainLength_X2_nextInChain : GoodIn wsX2_chainLength (wsV RX2 47 RX2 yX2_nextInChain wsX2_nextInChain) := goodIn_app (goodIn_sub (sub_c (nq_m (n := 1) rfl) (sub_c (nq_m (n := 2) rfl) (sub_c (nq_m (n := 3) rfl) (sub_c (nq_m (n := 4) rfl) sub_n)))) (by decide +kernel)) ggX2_chainLength_X2_nextInChain
noncomputable def dX2_chainLength_0_l : List (Nat × Instr × Nat) := [(0, .iload_n 1, 1), (1, .istore_n 2, 1), (2, .iconst 0, 1), (3, .istore_n 3, 1), (4, .iload_n 2, 1), (5, .iconst (-1), 1), (6, .if_icmp .eq 22, 3), (9, .iload_n 3, 1), (10, .bipush 16, 2), (12, .if_icmp .ge 16, 3), (15, .aload_n 0, 1), (16, .iload_n 1, 1), (17, .iload_n 2, 1), (18, .invokevirtual 47, 3), (21, .istore_n 2, 1), (22, .iinc 3 1, 3), (25, .goto (-21), 3), (28, .iload_n 3, 1), (29, .ireturn, 1)]
set_option maxRecDepth 100000 in
theorem dX2_chainLength_0_g : dX2_chainLength_0_l.all (fun x => decide (decode cX2_chainLength x.1 = .ok x.2)) = true := by decide +kernel
set_option maxRecDepth 100000 in
theorem ggX2_chainMember_X2_nextInChain : GoodIn wsX2_chainMember wsX2_nextInChain := goodIn_sub (sub_g [(5, [0, 0, 0, 0]), (4, [5, 0, 0, 0, 0, 0, 0, 0, 0, 0])] rfl) gw_X2_nextInChain
set_option maxRecDepth 100000 in
theorem gX2_chainMember_X2_nextInChain : GoodIn wsX2_chainMember (wsV RX2 47 RX2 yX2_nextInChain wsX2_nextInChain) := goodIn_app (goodIn_sub (sub_c (nq_m (n := 1) rfl) (sub_c (nq_m (n := 2) rfl) (sub_c (nq_m (n := 3) rfl) (sub_c (nq_m (n := 4) rfl) sub_n)))) (by decide +kernel)) ggX2_chainMember_X2_nextInChain
noncomputable def dX2_chainMember_0_l : List (Nat × Instr × Nat) := [(0, .iload_n 2, 1), (1, .ifCond .ge 5, 3), (4, .iconst (-1), 1), (5, .ireturn, 1), (6, .iload_n 1, 1), (7, .istore_n 3, 1), (8, .iconst 0, 1), (9, .istore 4, 2), (11, .iload 4, 2), (13, .iload_n 2, 1), (14, .if_icmp .ge 21, 3), (17, .iload_n 3, 1), (18, .iconst (-1), 1), (19, .if_icmp .eq 16, 3), (22, .aload_n 0, 1), (23, .iload_n 1, 1), (24, .iload_n 3, 1), (25, .invokevirtual 47, 3), (28, .istore_n 3, 1), (29, .iinc 4 1, 3), (32, .goto (-21), 3), (35, .iload_n 3, 1), (36, .ireturn, 1)]
set_option maxRecDepth 100000 in
theorem dX2_chainMember_0_g : dX2_chainMember_0_l.all (fun x => decide (decode cX2_chainMember x.1 = .ok x.2)) = true := by decide +kernel
set_option maxRecDepth 100000 in
theorem gw_X2_chainLength : wsX2_chainLength.all goodWord = true := by decide +kernel
set_option maxRecDepth 100000 in
theorem ggX2_comesRound_X2_chainLength : GoodIn wsX2_comesRound wsX2_chainLength := goodIn_sub (sub_g [(6, [0, 0, 0]), (5, [4]), (1, [9, 0, 0, 0, 0, 4, 0, 0, 0, 0, 0, 0, 0])] rfl) gw_X2_chainLength
set_option maxRecDepth 100000 in
theorem gX2_comesRound_X2_chainLength : GoodIn wsX2_comesRound (wsV RX2 51 RX2 yX2_chainLength wsX2_chainLength) := goodIn_app (goodIn_sub (sub_c (nq_m (n := 2) rfl) (sub_c (nq_m (n := 3) rfl) (sub_c (nq_m (n := 4) rfl) (sub_c (nq_m (n := 5) rfl) sub_n)))) (by decide +kernel)) ggX2_comesRound_X2_chainLength
set_option maxRecDepth 100000 in
theorem gw_X2_chainMember : wsX2_chainMember.all goodWord = true := by decide +kernel
set_option maxRecDepth 100000 in
theorem ggX2_comesRound_X2_chainMember : GoodIn wsX2_comesRound wsX2_chainMember := goodIn_sub (sub_g [(19, []), (7, [0, 0]), (5, [4]), (1, [9, 0, 0, 0, 0, 4, 0, 0, 0, 0, 0, 0, 0])] rfl) gw_X2_chainMember
set_option maxRecDepth 100000 in
theorem gX2_comesRound_X2_chainMember : GoodIn wsX2_comesRound (wsV RX2 55 RX2 yX2_chainMember wsX2_chainMember) := goodIn_app (goodIn_sub (sub_c (nq_m (n := 16) rfl) (sub_c (nq_m (n := 17) rfl) (sub_c (nq_m (n := 18) rfl) (sub_c (nq_m (n := 5) rfl) sub_n)))) (by decide +kernel)) ggX2_comesRound_X2_chainMember
set_option maxRecDepth 100000 in
theorem ggX2_comesRound_X2_knows : GoodIn wsX2_comesRound wsX2_knows := goodIn_sub (sub_g [(14, [0, 4, 0, 0, 0, 0, 0, 0, 0])] rfl) gw_X2_knows
set_option maxRecDepth 100000 in
theorem gX2_comesRound_X2_knows : GoodIn wsX2_comesRound (wsV RX2 43 RX2 yX2_knows wsX2_knows) := goodIn_app (goodIn_sub (sub_c (nq_m (n := 11) rfl) (sub_c (nq_m (n := 12) rfl) (sub_c (nq_m (n := 13) rfl) (sub_c (nq_m (n := 5) rfl) sub_n)))) (by decide +kernel)) ggX2_comesRound_X2_knows
noncomputable def dX2_comesRound_0_l : List (Nat × Instr × Nat) := [(0, .aload_n 0, 1), (1, .iload_n 1, 1), (2, .aload_n 0, 1), (3, .iload_n 1, 1), (4, .invokevirtual 51, 3), (7, .iconst 1, 1), (8, .isub, 1), (9, .invokevirtual 55, 3), (12, .istore_n 2, 1), (13, .aload_n 0, 1), (14, .iload_n 2, 1), (15, .invokevirtual 43, 3), (18, .ifCond .eq 17, 3), (21, .aload_n 0, 1), (22, .getfield 34, 3), (25, .iload_n 2, 1), (26, .iaload, 1), (27, .iload_n 1, 1), (28, .if_icmp .ne 7, 3), (31, .iconst 1, 1), (32, .goto 4, 3), (35, .iconst 0, 1), (36, .ireturn, 1)]
set_option maxRecDepth 100000 in
theorem dX2_comesRound_0_g : dX2_comesRound_0_l.all (fun x => decide (decode cX2_comesRound x.1 = .ok x.2)) = true := by decide +kernel
set_option maxRecDepth 100000 in
theorem gw_X2_isAstray : wsX2_isAstray.all goodWord = true := by decide +kernel
set_option maxRecDepth 100000 in
theorem ggX2_isLeastOfRing_X2_isAstray : GoodIn wsX2_isLeastOfRing wsX2_isAstray := goodIn_sub (sub_g [(5, [0, 0, 0, 0]), (4, [5, 0, 16, 0, 0, 0, 0, 0, 0, 0])] rfl) gw_X2_isAstray
set_option maxRecDepth 100000 in
theorem gX2_isLeastOfRing_X2_isAstray : GoodIn wsX2_isLeastOfRing (wsV RX2 58 RX2 yX2_isAstray wsX2_isAstray) := goodIn_app (goodIn_sub (sub_c (nq_m (n := 1) rfl) (sub_c (nq_m (n := 2) rfl) (sub_c (nq_m (n := 3) rfl) (sub_c (nq_m (n := 4) rfl) sub_n)))) (by decide +kernel)) ggX2_isLeastOfRing_X2_isAstray
set_option maxRecDepth 100000 in
theorem gw_X2_comesRound : wsX2_comesRound.all goodWord = true := by decide +kernel
set_option maxRecDepth 100000 in
theorem ggX2_isLeastOfRing_X2_comesRound : GoodIn wsX2_isLeastOfRing wsX2_comesRound := goodIn_sub (sub_g [(15, []), (6, [9, 0, 0]), (4, [14, 0, 0, 0, 0]), (7, [0, 0, 0, 0, 12, 0, 0, 0, 0, 0, 0, 0, 0, 0, 0, 0])] rfl) gw_X2_comesRound
set_option maxRecDepth 100000 in
theorem gX2_isLeastOfRing_X2_comesRound : GoodIn wsX2_isLeastOfRing (wsV RX2 61 RX2 yX2_comesRound wsX2_comesRound) := goodIn_app (goodIn_sub (sub_c (nq_m (n := 12) rfl) (sub_c (nq_m (n := 13) rfl) (sub_c (nq_m (n := 14) rfl) (sub_c (nq_m (n := 4) rfl) sub_n)))) (by decide +kernel)) ggX2_isLeastOfRing_X2_comesRound
set_option maxRecDepth 100000 in
theorem ggX2_isLeastOfRing_X2_nextInChain : GoodIn wsX2_isLeastOfRing wsX2_nextInChain := goodIn_sub (sub_g [(23, []), (6, [0, 0, 0]), (4, [5, 0, 16, 0, 0, 0, 0, 0, 0, 0])] rfl) gw_X2_nextInChain
set_option maxRecDepth 100000 in
theorem gX2_isLeastOfRing_X2_nextInChain : GoodIn wsX2_isLeastOfRing (wsV RX2 47 RX2 yX2_nextInChain wsX2_nextInChain) := goodIn_app (goodIn_sub (sub_c (nq_m (n := 20) rfl) (sub_c (nq_m (n := 21) rfl) (sub_c (nq_m (n := 22) rfl) (sub_c (nq_m (n := 4) rfl) sub_n)))) (by decide +kernel)) ggX2_isLeastOfRing_X2_nextInChain
noncomputable def dX2_isLeastOfRing_0_l : List (Nat × Instr × Nat) := [(0, .aload_n 0, 1), (1, .iload_n 1, 1), (2, .invokevirtual 58, 3), (5, .ifCond .eq 11, 3), (8, .aload_n 0, 1), (9, .iload_n 1, 1), (10, .invokevirtual 61, 3), (13, .ifCond .ne 5, 3), (16, .iconst 0, 1), (17, .ireturn, 1), (18, .iload_n 1, 1), (19, .istore_n 2, 1), (20, .iconst 0, 1), (21, .istore_n 3, 1), (22, .iload_n 3, 1), (23, .bipush 16, 2), (25, .if_icmp .ge 21, 3), (28, .iload_n 2, 1), (29, .iload_n 1, 1), (30, .if_icmp .lt 16, 3), (33, .aload_n 0, 1), (34, .iload_n 1, 1), (35, .iload_n 2, 1), (36, .invokevirtual 47, 3), (39, .istore_n 2, 1), (40, .iinc 3 1, 3), (43, .goto (-21), 3), (46, .iload_n 2, 1), (47, .iconst (-1), 1), (48, .if_icmp .ne 7, 3), (51, .iconst 1, 1), (52, .goto 4, 3), (55, .iconst 0, 1), (56, .ireturn, 1)]
set_option maxRecDepth 100000 in
theorem dX2_isLeastOfRing_0_g : dX2_isLeastOfRing_0_l.all (fun x => decide (decode cX2_isLeastOfRing x.1 = .ok x.2)) = true := by decide +kernel
noncomputable def dX3_init_0_l : List (Nat × Instr × Nat) := [(0, .aload_n 0, 1), (1, .invokespecial 3, 3), (4, .aload_n 0, 1), (5, .bipush 24, 2), (7, .newarray .int, 2), (9, .putfield 9, 3), (12, .aload_n 0, 1), (13, .bipush 24, 2), (15, .newarray .int, 2), (17, .putfield 15, 3), (20, .aload_n 0, 1), (21, .bipush 12, 2), (23, .newarray .int, 2), (25, .putfield 18, 3), (28, .aload_n 0, 1), (29, .iconst 3, 1), (30, .newarray .int, 2), (32, .putfield 21, 3), (35, .aload_n 0, 1), (36, .iconst 0, 1), (37, .putfield 24, 3), (40, .aload_n 0, 1), (41, .iconst 0, 1), (42, .putfield 28, 3), (45, .aload_n 0, 1), (46, .iconst 0, 1), (47, .putfield 31, 3), (50, .return_, 1)]
set_option maxRecDepth 100000 in
theorem dX3_init_0_g : dX3_init_0_l.all (fun x => decide (decode cX3_init x.1 = .ok x.2)) = true := by decide +kernel
set_option maxRecDepth 100000 in
theorem gw_X3_tellWeights : wsX3_tellWeights.all goodWord = true := by decide +kernel
set_option maxRecDepth 100000 in
theorem ggX3_clear_X3_tellWeights : GoodIn wsX3_clear wsX3_tellWeights := goodIn_sub (sub_g [(8, [0, 8, 0, 0, 0, 0, 0, 0])] rfl) gw_X3_tellWeights
set_option maxRecDepth 100000 in
theorem gX3_clear_X3_tellWeights : GoodIn wsX3_clear (wsV RX3 34 RX3 yX3_tellWeights wsX3_tellWeights) := goodIn_app (goodIn_sub (sub_c (nq_m (n := 4) rfl) (sub_c (nq_m (n := 5) rfl) (sub_c (nq_m (n := 6) rfl) (sub_c (nq_m (n := 7) rfl) sub_n)))) (by decide +kernel)) ggX3_clear_X3_tellWeights
set_option maxRecDepth 100000 in
theorem gw_X3_tellShares : wsX3_tellShares.all goodWord = true := by decide +kernel
set_option maxRecDepth 100000 in
theorem ggX3_clear_X3_tellShares : GoodIn wsX3_clear wsX3_tellShares := goodIn_sub (sub_g [(13, [0, 0, 0, 0, 0, 0, 0, 0, 0, 0, 0])] rfl) gw_X3_tellShares
set_option maxRecDepth 100000 in
theorem gX3_clear_X3_tellShares : GoodIn wsX3_clear (wsV RX3 38 RX3 yX3_tellShares wsX3_tellShares) := goodIn_app (goodIn_sub (sub_c (nq_m (n := 10) rfl) (sub_c (nq_m (n := 11) rfl) (sub_c (nq_m (n := 12) rfl) (sub_c (nq_m (n := 7) rfl) sub_n)))) (by decide +kernel)) ggX3_clear_X3_tellShares
noncomputable def dX3_clear_0_l : List (Nat × Instr × Nat) := [(0, .aload_n 0, 1), (1, .iconst 0, 1), (2, .putfield 24, 3), (5, .aload_n 0, 1), (6, .iconst 2, 1), (7, .putfield 28, 3), (10, .aload_n 0, 1), (11, .iconst 1, 1), (12, .putfield 31, 3), (15, .aload_n 0, 1), (16, .iconst 1, 1), (17, .iconst 2, 1), (18, .iconst 5, 1), (19, .invokevirtual 34, 3), (22, .iconst 0, 1), (23, .istore_n 1, 1), (24, .iload_n 1, 1), (25, .iconst 4, 1), (26, .if_icmp .ge 20, 3), (29, .aload_n 0, 1), (30, .iload_n 1, 1), (31, .bipush 10, 2), (33, .bipush 20, 2), (35, .bipush 70, 2), (37, .invokevirtual 38, 3), (40, .iinc 1 1, 3), (43, .goto (-19), 3), (46, .return_, 1)]
set_option maxRecDepth 100000 in
theorem dX3_clear_0_g : dX3_clear_0_l.all (fun x => decide (decode cX3_clear x.1 = .ok x.2)) = true := by decide +kernel
noncomputable def dX3_tellWeights_0_l : List (Nat × Instr × Nat) := [(0, .aload_n 0, 1), (1, .getfield 21, 3), (4, .iconst 0, 1), (5, .iload_n 1, 1), (6, .iastore, 1), (7, .aload_n 0, 1), (8, .getfield 21, 3), (11, .iconst 1, 1), (12, .iload_n 2, 1), (13, .iastore, 1), (14, .aload_n 0, 1), (15, .getfield 21, 3), (18, .iconst 2, 1), (19, .iload_n 3, 1), (20, .iastore, 1), (21, .return_, 1)]
set_option maxRecDepth 100000 in
theorem dX3_tellWeights_0_g : dX3_tellWeights_0_l.all (fun x => decide (decode cX3_tellWeights x.1 = .ok x.2)) = true := by decide +kernel
set_option maxRecDepth 100000 in
theorem ggX3_tellShares_X10_within : GoodIn wsX3_tellShares wsX10_within := goodIn_sub (sub_c (nq_m (n := 4) rfl) sub_n) gw_X10_within
set_option maxRecDepth 100000 in
theorem gX3_tellShares_X10_within_n42 : GoodIn wsX3_tellShares (wsX10_within) := ggX3_tellShares_X10_within
noncomputable def dX3_tellShares_0_l : List (Nat × Instr × Nat) := [(0, .iload_n 1, 1), (1, .iconst 0, 1), (2, .iconst 3, 1), (3, .invokestatic 42, 3), (6, .ifCond .ne 4, 3), (9, .return_, 1), (10, .aload_n 0, 1), (11, .getfield 18, 3), (14, .iload_n 1, 1), (15, .iconst 3, 1), (16, .imul, 1), (17, .iload_n 2, 1), (18, .iastore, 1), (19, .aload_n 0, 1), (20, .getfield 18, 3), (23, .iload_n 1, 1), (24, .iconst 3, 1), (25, .imul, 1), (26, .iconst 1, 1), (27, .iadd, 1), (28, .iload_n 3, 1), (29, .iastore, 1), (30, .aload_n 0, 1), (31, .getfield 18, 3), (34, .iload_n 1, 1), (35, .iconst 3, 1), (36, .imul, 1), (37, .iconst 2, 1), (38, .iadd, 1), (39, .iload 4, 2), (41, .iastore, 1), (42, .return_, 1)]
set_option maxRecDepth 100000 in
theorem dX3_tellShares_0_g : dX3_tellShares_0_l.all (fun x => decide (decode cX3_tellShares x.1 = .ok x.2)) = true := by decide +kernel
noncomputable def dX3_addRow_0_l : List (Nat × Instr × Nat) := [(0, .iconst 0, 1), (1, .istore 4, 2), (3, .iload 4, 2), (5, .iload_n 1, 1), (6, .if_icmp .ge 51, 3), (9, .aload_n 0, 1), (10, .getfield 24, 3), (13, .bipush 24, 2), (15, .if_icmp .ge 42, 3), (18, .aload_n 0, 1), (19, .getfield 9, 3), (22, .aload_n 0, 1), (23, .getfield 24, 3), (26, .iload_n 2, 1), (27, .iastore, 1), (28, .aload_n 0, 1), (29, .getfield 15, 3), (32, .aload_n 0, 1), (33, .getfield 24, 3), (36, .iload_n 3, 1), (37, .iload 4, 2), (39, .iadd, 1), (40, .iastore, 1), (41, .aload_n 0, 1), (42, .dup, 1), (43, .getfield 24, 3), (46, .iconst 1, 1), (47, .iadd, 1), (48, .putfield 24, 3), (51, .iinc 4 1, 3), (54, .goto (-51), 3), (57, .return_, 1)]
set_option maxRecDepth 100000 in
theorem dX3_addRow_0_g : dX3_addRow_0_l.all (fun x => decide (decode cX3_addRow x.1 = .ok x.2)) = true := by decide +kernel
noncomputable def dX3_hasPeg_0_l : List (Nat × Instr × Nat) := [(0, .iload_n 1, 1), (1, .ifCond .lt 21, 3), (4, .iload_n 1, 1), (5, .aload_n 0, 1), (6, .getfield 24, 3), (9, .if_icmp .ge 13, 3), (12, .iload_n 1, 1), (13, .bipush 24, 2), (15, .if_icmp .ge 7, 3), (18, .iconst 1, 1), (19, .goto 4, 3), (22, .iconst 0, 1), (23, .ireturn, 1)]
set_option maxRecDepth 100000 in
theorem dX3_hasPeg_0_g : dX3_hasPeg_0_l.all (fun x => decide (decode cX3_hasPeg x.1 = .ok x.2)) = true := by decide +kernel
set_option maxRecDepth 100000 in
theorem gw_X3_hasPeg : wsX3_hasPeg.all goodWord = true := by decide +kernel
set_option maxRecDepth 100000 in
theorem ggX3_isOfKind_X3_hasPeg : GoodIn wsX3_isOfKind wsX3_hasPeg := goodIn_sub (sub_g [(6, [0, 0, 0, 0, 0, 0, 0, 0])] rfl) gw_X3_hasPeg
set_option maxRecDepth 100000 in
theorem gX3_isOfKind_X3_hasPeg : GoodIn wsX3_isOfKind (wsV RX3 46 RX3 yX3_hasPeg wsX3_hasPeg) := goodIn_app (goodIn_sub (sub_c (nq_m (n := 2) rfl) (sub_c (nq_m (n := 3) rfl) (sub_c (nq_m (n := 4) rfl) (sub_c (nq_m (n := 5) rfl) sub_n)))) (by decide +kernel)) ggX3_isOfKind_X3_hasPeg
noncomputable def dX3_isOfKind_0_l : List (Nat × Instr × Nat) := [(0, .aload_n 0, 1), (1, .iload_n 1, 1), (2, .invokevirtual 46, 3), (5, .ifCond .eq 17, 3), (8, .aload_n 0, 1), (9, .getfield 9, 3), (12, .iload_n 1, 1), (13, .iaload, 1), (14, .iload_n 2, 1), (15, .if_icmp .ne 7, 3), (18, .iconst 1, 1), (19, .goto 4, 3), (22, .iconst 0, 1), (23, .ireturn, 1)]
set_option maxRecDepth 100000 in
theorem dX3_isOfKind_0_g : dX3_isOfKind_0_l.all (fun x => decide (decode cX3_isOfKind x.1 = .ok x.2)) = true := by decide +kernel
set_option maxRecDepth 100000 in
theorem ggX3_walkOf_X3_hasPeg : GoodIn wsX3_walkOf wsX3_hasPeg := goodIn_sub (sub_g [(6, [0, 0, 0, 0, 0, 0, 0, 0])] rfl) gw_X3_hasPeg
set_option maxRecDepth 100000 in
theorem gX3_walkOf_X3_hasPeg : GoodIn wsX3_walkOf (wsV RX3 46 RX3 yX3_hasPeg wsX3_hasPeg) := goodIn_app (goodIn_sub (sub_c (nq_m (n := 2) rfl) (sub_c (nq_m (n := 3) rfl) (sub_c (nq_m (n := 4) rfl) (sub_c (nq_m (n := 5) rfl) sub_n)))) (by decide +kernel)) ggX3_walkOf_X3_hasPeg
noncomputable def dX3_walkOf_0_l : List (Nat × Instr × Nat) := [(0, .aload_n 0, 1), (1, .iload_n 1, 1), (2, .invokevirtual 46, 3), (5, .ifCond .eq 12, 3), (8, .aload_n 0, 1), (9, .getfield 15, 3), (12, .iload_n 1, 1), (13, .iaload, 1), (14, .goto 4, 3), (17, .iconst 0, 1), (18, .ireturn, 1)]
set_option maxRecDepth 100000 in
theorem dX3_walkOf_0_g : dX3_walkOf_0_l.all (fun x => decide (decode cX3_walkOf x.1 = .ok x.2)) = true := by decide +kernel
set_option maxRecDepth 100000 in
theorem ggX3_shareOf_X10_within : GoodIn wsX3_shareOf wsX10_within := goodIn_sub (sub_c (nq_m (n := 4) rfl) sub_n) gw_X10_within
set_option maxRecDepth 100000 in
theorem gX3_shareOf_X10_within_n42 : GoodIn wsX3_shareOf (wsX10_within) := ggX3_shareOf_X10_within
noncomputable def dX3_shareOf_0_l : List (Nat × Instr × Nat) := [(0, .iload_n 1, 1), (1, .iconst 0, 1), (2, .iconst 3, 1), (3, .invokestatic 42, 3), (6, .ifCond .eq 12, 3), (9, .iload_n 2, 1), (10, .iconst 0, 1), (11, .iconst 2, 1), (12, .invokestatic 42, 3), (15, .ifCond .ne 5, 3), (18, .iconst 0, 1), (19, .ireturn, 1), (20, .aload_n 0, 1), (21, .getfield 18, 3), (24, .iload_n 1, 1), (25, .iconst 3, 1), (26, .imul, 1), (27, .iload_n 2, 1), (28, .iadd, 1), (29, .iaload, 1), (30, .ireturn, 1)]
set_option maxRecDepth 100000 in
theorem dX3_shareOf_0_g : dX3_shareOf_0_l.all (fun x => decide (decode cX3_shareOf x.1 = .ok x.2)) = true := by decide +kernel
set_option maxRecDepth 100000 in
theorem ggX3_weightOf_X10_within : GoodIn wsX3_weightOf wsX10_within := goodIn_sub (sub_c (nq_m (n := 4) rfl) sub_n) gw_X10_within
set_option maxRecDepth 100000 in
theorem gX3_weightOf_X10_within_n42 : GoodIn wsX3_weightOf (wsX10_within) := ggX3_weightOf_X10_within
noncomputable def dX3_weightOf_0_l : List (Nat × Instr × Nat) := [(0, .iload_n 1, 1), (1, .iconst 0, 1), (2, .iconst 2, 1), (3, .invokestatic 42, 3), (6, .ifCond .eq 12, 3), (9, .aload_n 0, 1), (10, .getfield 21, 3), (13, .iload_n 1, 1), (14, .iaload, 1), (15, .goto 4, 3), (18, .iconst 0, 1), (19, .ireturn, 1)]
set_option maxRecDepth 100000 in
theorem dX3_weightOf_0_g : dX3_weightOf_0_l.all (fun x => decide (decode cX3_weightOf x.1 = .ok x.2)) = true := by decide +kernel
set_option maxRecDepth 100000 in
theorem gw_X2_init : wsX2_init.all goodWord = true := by decide +kernel
set_option maxRecDepth 100000 in
theorem ggX4_init_X2_init : GoodIn wsX4_init wsX2_init := goodIn_sub (sub_g [(22, [0]), (2, [0, 20, 0, 0, 0, 0, 0, 0, 0, 0, 17, 0, 0, 0, 0, 0, 0, 0])] rfl) gw_X2_init
set_option maxRecDepth 100000 in
theorem gX4_init_X2_init_n9 : GoodIn wsX4_init (wsX2_init) := ggX4_init_X2_init
set_option maxRecDepth 100000 in
theorem gw_X1_init : wsX1_init.all goodWord = true := by decide +kernel
set_option maxRecDepth 100000 in
theorem ggX4_init_X1_init : GoodIn wsX4_init wsX1_init := goodIn_sub (sub_g [(34, [0]), (2, [0, 32]), (25, [11, 25, 0])] rfl) gw_X1_init
set_option maxRecDepth 100000 in
theorem gX4_init_X1_init_n18 : GoodIn wsX4_init (wsX1_init) := ggX4_init_X1_init
set_option maxRecDepth 100000 in
theorem gw_X0_init : wsX0_init.all goodWord = true := by decide +kernel
set_option maxRecDepth 100000 in
theorem ggX4_init_X0_init : GoodIn wsX4_init wsX0_init := goodIn_sub (sub_g [(39, [0]), (2, [0, 37]), (25, [16, 0, 0, 20, 0, 0, 0])] rfl) gw_X0_init
set_option maxRecDepth 100000 in
theorem gX4_init_X0_init_n25 : GoodIn wsX4_init (wsX0_init) := ggX4_init_X0_init
set_option maxRecDepth 100000 in
theorem gw_X6_init : wsX6_init.all goodWord = true := by decide +kernel
set_option maxRecDepth 100000 in
theorem ggX4_init_X6_init : GoodIn wsX4_init wsX6_init := goodIn_sub (sub_g [(46, [0]), (2, [0, 44]), (25, [23, 19, 0])] rfl) gw_X6_init
set_option maxRecDepth 100000 in
theorem gX4_init_X6_init_n32 : GoodIn wsX4_init (wsX6_init) := ggX4_init_X6_init
noncomputable def dX4_init_0_l : List (Nat × Instr × Nat) := [(0, .aload_n 0, 1), (1, .invokespecial 1, 3), (4, .aload_n 0, 1), (5, .new 7, 3), (8, .dup, 1), (9, .invokespecial 9, 3), (12, .putfield 10, 3), (15, .aload_n 0, 1), (16, .new 16, 3), (19, .dup, 1), (20, .invokespecial 18, 3), (23, .putfield 19, 3), (26, .aload_n 0, 1), (27, .new 23, 3), (30, .dup, 1), (31, .invokespecial 25, 3), (34, .putfield 26, 3), (37, .aload_n 0, 1), (38, .new 30, 3), (41, .dup, 1), (42, .invokespecial 32, 3), (45, .putfield 33, 3), (48, .aload_n 0, 1), (49, .iconst 0, 1), (50, .putfield 37, 3), (53, .return_, 1)]
set_option maxRecDepth 100000 in
theorem dX4_init_0_g : dX4_init_0_l.all (fun x => decide (decode cX4_init x.1 = .ok x.2)) = true := by decide +kernel
set_option maxRecDepth 100000 in
theorem gw_X2_copyFrom : wsX2_copyFrom.all goodWord = true := by decide +kernel
set_option maxRecDepth 100000 in
theorem ggX4_copyFrom_X2_copyFrom : GoodIn wsX4_copyFrom wsX2_copyFrom := goodIn_sub (sub_g [(9, [0, 0, 0, 0, 0, 0, 0, 0, 0, 0, 0, 0, 31, 0, 0, 0, 0, 0, 0, 0])] rfl) gw_X2_copyFrom
set_option maxRecDepth 100000 in
theorem gX4_copyFrom_X2_copyFrom : GoodIn wsX4_copyFrom (wsV RX4 41 RX2 yX2_copyFrom wsX2_copyFrom) := goodIn_app (goodIn_sub (sub_c (nq_m (n := 5) rfl) (sub_c (nq_m (n := 6) rfl) (sub_c (nq_m (n := 7) rfl) (sub_c (nq_m (n := 8) rfl) sub_n)))) (by decide +kernel)) ggX4_copyFrom_X2_copyFrom
set_option maxRecDepth 100000 in
theorem gw_X1_copyFrom : wsX1_copyFrom.all goodWord = true := by decide +kernel
set_option maxRecDepth 100000 in
theorem ggX4_copyFrom_X1_copyFrom : GoodIn wsX4_copyFrom wsX1_copyFrom := goodIn_sub (sub_g [(26, [0, 0, 0]), (13, [0, 0, 45, 0])] rfl) gw_X1_copyFrom
set_option maxRecDepth 100000 in
theorem gX4_copyFrom_X1_copyFrom : GoodIn wsX4_copyFrom (wsV RX4 45 RX1 yX1_copyFrom wsX1_copyFrom) := goodIn_app (goodIn_sub (sub_c (nq_m (n := 22) rfl) (sub_c (nq_m (n := 23) rfl) (sub_c (nq_m (n := 24) rfl) (sub_c (nq_m (n := 25) rfl) sub_n)))) (by decide +kernel)) ggX4_copyFrom_X1_copyFrom
set_option maxRecDepth 100000 in
theorem gw_X0_copyFrom : wsX0_copyFrom.all goodWord = true := by decide +kernel
set_option maxRecDepth 100000 in
theorem ggX4_copyFrom_X0_copyFrom : GoodIn wsX4_copyFrom wsX0_copyFrom := goodIn_sub (sub_g [(34, [0, 0, 0]), (13, [0, 0, 22, 0, 23, 0, 0, 0])] rfl) gw_X0_copyFrom
set_option maxRecDepth 100000 in
theorem gX4_copyFrom_X0_copyFrom : GoodIn wsX4_copyFrom (wsV RX4 48 RX0 yX0_copyFrom wsX0_copyFrom) := goodIn_app (goodIn_sub (sub_c (nq_m (n := 30) rfl) (sub_c (nq_m (n := 31) rfl) (sub_c (nq_m (n := 32) rfl) (sub_c (nq_m (n := 33) rfl) sub_n)))) (by decide +kernel)) ggX4_copyFrom_X0_copyFrom
set_option maxRecDepth 100000 in
theorem gw_X6_copyFrom : wsX6_copyFrom.all goodWord = true := by decide +kernel
set_option maxRecDepth 100000 in
theorem ggX4_copyFrom_X6_copyFrom : GoodIn wsX4_copyFrom wsX6_copyFrom := goodIn_sub (sub_g [(44, [0, 0, 0]), (13, [0, 0, 51, 0])] rfl) gw_X6_copyFrom
set_option maxRecDepth 100000 in
theorem gX4_copyFrom_X6_copyFrom : GoodIn wsX4_copyFrom (wsV RX4 51 RX6 yX6_copyFrom wsX6_copyFrom) := goodIn_app (goodIn_sub (sub_c (nq_m (n := 40) rfl) (sub_c (nq_m (n := 41) rfl) (sub_c (nq_m (n := 42) rfl) (sub_c (nq_m (n := 43) rfl) sub_n)))) (by decide +kernel)) ggX4_copyFrom_X6_copyFrom
noncomputable def dX4_copyFrom_0_l : List (Nat × Instr × Nat) := [(0, .aload_n 0, 1), (1, .getfield 10, 3), (4, .aload_n 1, 1), (5, .getfield 10, 3), (8, .invokevirtual 41, 3), (11, .aload_n 0, 1), (12, .getfield 19, 3), (15, .aload_n 1, 1), (16, .getfield 19, 3), (19, .invokevirtual 45, 3), (22, .aload_n 0, 1), (23, .getfield 26, 3), (26, .aload_n 1, 1), (27, .getfield 26, 3), (30, .invokevirtual 48, 3), (33, .aload_n 0, 1), (34, .getfield 33, 3), (37, .aload_n 1, 1), (38, .getfield 33, 3), (41, .invokevirtual 51, 3), (44, .return_, 1)]
set_option maxRecDepth 100000 in
theorem dX4_copyFrom_0_g : dX4_copyFrom_0_l.all (fun x => decide (decode cX4_copyFrom x.1 = .ok x.2)) = true := by decide +kernel
noncomputable def dX5_init_0_l : List (Nat × Instr × Nat) := [(0, .aload_n 0, 1), (1, .invokespecial 3, 3), (4, .aload_n 0, 1), (5, .bipush 6, 2), (7, .newarray .int, 2), (9, .putfield 9, 3), (12, .aload_n 0, 1), (13, .bipush 64, 2), (15, .newarray .long, 2), (17, .putfield 15, 3), (20, .aload_n 0, 1), (21, .iconst 0, 1), (22, .putfield 19, 3), (25, .return_, 1)]
set_option maxRecDepth 100000 in
theorem dX5_init_0_g : dX5_init_0_l.all (fun x => decide (decode cX5_init x.1 = .ok x.2)) = true := by decide +kernel
set_option maxRecDepth 100000 in
theorem ggX5_load_X0_thingsFor : GoodIn wsX5_load wsX0_thingsFor := goodIn_sub (sub_g [(12, [0, 0, 0, 0, 0, 0, 0]), (11, [8, 0, 0, 0, 0, 0, 0, 0, 0, 0, 0, 0, 0, 0, 0, 0, 0, 0, 0, 0, 0, 0, 0, 0, 0, 0, 0, 3, 0, 0, 0, 0, 0, 0, 0])] rfl) gw_X0_thingsFor
set_option maxRecDepth 100000 in
theorem gX5_load_X0_thingsFor : GoodIn wsX5_load (wsV RX5 34 RX0 yX0_thingsFor wsX0_thingsFor) := goodIn_app (goodIn_sub (sub_c (nq_m (n := 8) rfl) (sub_c (nq_m (n := 9) rfl) (sub_c (nq_m (n := 10) rfl) (sub_c (nq_m (n := 11) rfl) sub_n)))) (by decide +kernel)) ggX5_load_X0_thingsFor
noncomputable def dX5_load_0_l : List (Nat × Instr × Nat) := [(0, .aload_n 0, 1), (1, .aload_n 1, 1), (2, .getfield 23, 3), (5, .bipush 6, 2), (7, .invokestatic 28, 3), (10, .putfield 19, 3), (13, .iconst 0, 1), (14, .istore_n 3, 1), (15, .iload_n 3, 1), (16, .aload_n 0, 1), (17, .getfield 19, 3), (20, .if_icmp .ge 21, 3), (23, .aload_n 0, 1), (24, .getfield 9, 3), (27, .iload_n 3, 1), (28, .aload_n 1, 1), (29, .iload_n 3, 1), (30, .aload_n 2, 1), (31, .invokevirtual 34, 3), (34, .iastore, 1), (35, .iinc 3 1, 3), (38, .goto (-23), 3), (41, .return_, 1)]
set_option maxRecDepth 100000 in
theorem dX5_load_0_g : dX5_load_0_l.all (fun x => decide (decode cX5_load x.1 = .ok x.2)) = true := by decide +kernel
set_option maxRecDepth 100000 in
theorem gw_X5_addWays : wsX5_addWays.all goodWord = true := by decide +kernel
set_option maxRecDepth 100000 in
theorem ggX5_number_X5_addWays : GoodIn wsX5_number wsX5_addWays := goodIn_sub (sub_g [(8, []), (1, [0, 0, 5, 0, 0])] rfl) gw_X5_addWays
set_option maxRecDepth 100000 in
theorem gX5_number_X5_addWays : GoodIn wsX5_number (wsV RX5 38 RX5 yX5_addWays wsX5_addWays) := goodIn_app (goodIn_sub (sub_c (nq_m (n := 4) rfl) (sub_c (nq_m (n := 5) rfl) (sub_c (nq_m (n := 6) rfl) (sub_c (nq_m (n := 7) rfl) sub_n)))) (by decide +kernel)) ggX5_number_X5_addWays
noncomputable def dX5_number_0_l : List (Nat × Instr × Nat) := [(0, .iconst 1, 1), (1, .aload_n 0, 1), (2, .getfield 19, 3), (5, .ishl, 1), (6, .iconst 1, 1), (7, .isub, 1), (8, .istore_n 1, 1), (9, .iconst 0, 1), (10, .istore_n 2, 1), (11, .iconst 0, 1), (12, .istore_n 3, 1), (13, .iload_n 3, 1), (14, .aload_n 0, 1), (15, .getfield 19, 3), (18, .if_icmp .ge 18, 3), (21, .iload_n 2, 1), (22, .aload_n 0, 1), (23, .getfield 9, 3), (26, .iload_n 3, 1), (27, .iaload, 1), (28, .ior, 1), (29, .istore_n 2, 1), (30, .iinc 3 1, 3), (33, .goto (-20), 3), (36, .iconst 0, 1), (37, .istore_n 3, 1), (38, .iload_n 3, 1), (39, .iload_n 1, 1), (40, .if_icmp .gt 16, 3), (43, .aload_n 0, 1), (44, .getfield 15, 3), (47, .iload_n 3, 1), (48, .lconst 0, 1), (49, .lastore, 1), (50, .iinc 3 1, 3), (53, .goto (-15), 3), (56, .aload_n 0, 1), (57, .getfield 15, 3), (60, .iconst 0, 1), (61, .lconst 1, 1)]
set_option maxRecDepth 100000 in
theorem dX5_number_0_g : dX5_number_0_l.all (fun x => decide (decode cX5_number x.1 = .ok x.2)) = true := by decide +kernel
noncomputable def dX5_number_62_l : List (Nat × Instr × Nat) := [(62, .lastore, 1), (63, .iconst 0, 1), (64, .istore_n 3, 1), (65, .iload_n 3, 1), (66, .bipush 16, 2), (68, .if_icmp .ge 41, 3), (71, .iload_n 2, 1), (72, .iload_n 3, 1), (73, .ishr, 1), (74, .iconst 1, 1), (75, .iand, 1), (76, .ifCond .ne 6, 3), (79, .goto 24, 3), (82, .iload_n 1, 1), (83, .istore 4, 2), (85, .iload 4, 2), (87, .ifCond .le 16, 3), (90, .aload_n 0, 1), (91, .iload 4, 2), (93, .iload_n 3, 1), (94, .invokevirtual 38, 3), (97, .iinc 4 (-1), 3), (100, .goto (-15), 3), (103, .iinc 3 1, 3), (106, .goto (-41), 3), (109, .aload_n 0, 1), (110, .getfield 15, 3), (113, .iload_n 1, 1), (114, .laload, 1), (115, .lreturn, 1)]
set_option maxRecDepth 100000 in
theorem dX5_number_62_g : dX5_number_62_l.all (fun x => decide (decode cX5_number x.1 = .ok x.2)) = true := by decide +kernel
noncomputable def dX5_addWays_0_l : List (Nat × Instr × Nat) := [(0, .iconst 0, 1), (1, .istore_n 3, 1), (2, .iload_n 3, 1), (3, .aload_n 0, 1), (4, .getfield 19, 3), (7, .if_icmp .ge 63, 3), (10, .iload_n 1, 1), (11, .iload_n 3, 1), (12, .ishr, 1), (13, .iconst 1, 1), (14, .iand, 1), (15, .iconst 1, 1), (16, .if_icmp .ne 21, 3), (19, .aload_n 0, 1), (20, .getfield 9, 3), (23, .iload_n 3, 1), (24, .iaload, 1), (25, .iload_n 2, 1), (26, .ishr, 1), (27, .iconst 1, 1), (28, .iand, 1), (29, .iconst 1, 1), (30, .if_icmp .ne 7, 3), (33, .iconst 1, 1), (34, .goto 4, 3), (37, .iconst 0, 1), (38, .istore 4, 2), (40, .iload 4, 2), (42, .ifCond .eq 22, 3), (45, .aload_n 0, 1), (46, .getfield 15, 3), (49, .iload_n 1, 1), (50, .dup2, 1), (51, .laload, 1), (52, .aload_n 0, 1), (53, .getfield 15, 3), (56, .iload_n 1, 1), (57, .iconst 1, 1), (58, .iload_n 3, 1), (59, .ishl, 1)]
set_option maxRecDepth 100000 in
theorem dX5_addWays_0_g : dX5_addWays_0_l.all (fun x => decide (decode cX5_addWays x.1 = .ok x.2)) = true := by decide +kernel
noncomputable def dX5_addWays_60_l : List (Nat × Instr × Nat) := [(60, .ixor, 1), (61, .laload, 1), (62, .ladd, 1), (63, .lastore, 1), (64, .iinc 3 1, 3), (67, .goto (-65), 3), (70, .return_, 1)]
set_option maxRecDepth 100000 in
theorem dX5_addWays_60_g : dX5_addWays_60_l.all (fun x => decide (decode cX5_addWays x.1 = .ok x.2)) = true := by decide +kernel
set_option maxRecDepth 100000 in
theorem ggX5_onlyThingOf_X10_within : GoodIn wsX5_onlyThingOf wsX10_within := goodIn_sub (sub_c (nq_m (n := 5) rfl) sub_n) gw_X10_within
set_option maxRecDepth 100000 in
theorem gX5_onlyThingOf_X10_within_n42 : GoodIn wsX5_onlyThingOf (wsX10_within) := ggX5_onlyThingOf_X10_within
set_option maxRecDepth 100000 in
theorem gw_X5_number : wsX5_number.all goodWord = true := by decide +kernel
set_option maxRecDepth 100000 in
theorem ggX5_onlyThingOf_X5_number : GoodIn wsX5_onlyThingOf wsX5_number := goodIn_sub (sub_g [(10, []), (1, [0, 8, 0, 0, 0]), (9, [5, 0, 0, 0])] rfl) gw_X5_number
set_option maxRecDepth 100000 in
theorem gX5_onlyThingOf_X5_number : GoodIn wsX5_onlyThingOf (wsV RX5 46 RX5 yX5_number wsX5_number) := goodIn_app (goodIn_sub (sub_c (nq_m (n := 6) rfl) (sub_c (nq_m (n := 7) rfl) (sub_c (nq_m (n := 8) rfl) (sub_c (nq_m (n := 9) rfl) sub_n)))) (by decide +kernel)) ggX5_onlyThingOf_X5_number
noncomputable def dX5_onlyThingOf_0_l : List (Nat × Instr × Nat) := [(0, .iload_n 1, 1), (1, .iconst 0, 1), (2, .aload_n 0, 1), (3, .getfield 19, 3), (6, .iconst 1, 1), (7, .isub, 1), (8, .invokestatic 42, 3), (11, .ifCond .ne 5, 3), (14, .iconst (-1), 1), (15, .ireturn, 1), (16, .aload_n 0, 1), (17, .invokevirtual 46, 3), (20, .lconst 0, 1), (21, .lcmp, 1), (22, .ifCond .ne 5, 3), (25, .iconst (-1), 1), (26, .ireturn, 1), (27, .aload_n 0, 1), (28, .getfield 9, 3), (31, .iload_n 1, 1), (32, .iaload, 1), (33, .istore_n 2, 1), (34, .iconst (-1), 1), (35, .istore_n 3, 1), (36, .iconst 0, 1), (37, .istore 4, 2), (39, .iload 4, 2), (41, .bipush 16, 2), (43, .if_icmp .ge 53, 3), (46, .iload_n 2, 1), (47, .iload 4, 2), (49, .ishr, 1), (50, .iconst 1, 1), (51, .iand, 1), (52, .ifCond .ne 6, 3), (55, .goto 35, 3), (58, .aload_n 0, 1), (59, .getfield 9, 3), (62, .iload_n 1, 1), (63, .iconst 1, 1)]
set_option maxRecDepth 100000 in
theorem dX5_onlyThingOf_0_g : dX5_onlyThingOf_0_l.all (fun x => decide (decode cX5_onlyThingOf x.1 = .ok x.2)) = true := by decide +kernel
noncomputable def dX5_onlyThingOf_64_l : List (Nat × Instr × Nat) := [(64, .iload 4, 2), (66, .ishl, 1), (67, .iastore, 1), (68, .aload_n 0, 1), (69, .invokevirtual 46, 3), (72, .lconst 0, 1), (73, .lcmp, 1), (74, .ifCond .ne 6, 3), (77, .goto 13, 3), (80, .iload_n 3, 1), (81, .iconst (-1), 1), (82, .if_icmp .eq 5, 3), (85, .iconst (-1), 1), (86, .ireturn, 1), (87, .iload 4, 2), (89, .istore_n 3, 1), (90, .iinc 4 1, 3), (93, .goto (-54), 3), (96, .iload_n 3, 1), (97, .ireturn, 1)]
set_option maxRecDepth 100000 in
theorem dX5_onlyThingOf_64_g : dX5_onlyThingOf_64_l.all (fun x => decide (decode cX5_onlyThingOf x.1 = .ok x.2)) = true := by decide +kernel
noncomputable def dX6_init_0_l : List (Nat × Instr × Nat) := [(0, .aload_n 0, 1), (1, .invokespecial 3, 3), (4, .aload_n 0, 1), (5, .iconst 0, 1), (6, .putfield 9, 3), (9, .aload_n 0, 1), (10, .bipush 24, 2), (12, .newarray .int, 2), (14, .putfield 15, 3), (17, .return_, 1)]
set_option maxRecDepth 100000 in
theorem dX6_init_0_g : dX6_init_0_l.all (fun x => decide (decode cX6_init x.1 = .ok x.2)) = true := by decide +kernel
noncomputable def dX6_copyFrom_0_l : List (Nat × Instr × Nat) := [(0, .aload_n 0, 1), (1, .aload_n 1, 1), (2, .getfield 9, 3), (5, .putfield 9, 3), (8, .aload_n 1, 1), (9, .getfield 15, 3), (12, .iconst 0, 1), (13, .aload_n 0, 1), (14, .getfield 15, 3), (17, .iconst 0, 1), (18, .aload_n 0, 1), (19, .getfield 15, 3), (22, .arraylength, 1), (23, .invokestatic 19, 3), (26, .return_, 1)]
set_option maxRecDepth 100000 in
theorem dX6_copyFrom_0_g : dX6_copyFrom_0_l.all (fun x => decide (decode cX6_copyFrom x.1 = .ok x.2)) = true := by decide +kernel
set_option maxRecDepth 100000 in
theorem ggX6_add_X10_within : GoodIn wsX6_add wsX10_within := goodIn_sub (sub_c (nq_m (n := 5) rfl) sub_n) gw_X10_within
set_option maxRecDepth 100000 in
theorem gX6_add_X10_within_n25 : GoodIn wsX6_add (wsX10_within) := ggX6_add_X10_within
noncomputable def dX6_add_0_l : List (Nat × Instr × Nat) := [(0, .iload_n 1, 1), (1, .iconst 0, 1), (2, .iconst 3, 1), (3, .invokestatic 25, 3), (6, .ifCond .eq 12, 3), (9, .iload_n 2, 1), (10, .iconst 0, 1), (11, .iconst 1, 1), (12, .invokestatic 25, 3), (15, .ifCond .ne 7, 3), (18, .sipush (-1002), 3), (21, .ireturn, 1), (22, .iload_n 1, 1), (23, .iconst 2, 1), (24, .imul, 1), (25, .iload_n 2, 1), (26, .iadd, 1), (27, .iconst 3, 1), (28, .imul, 1), (29, .istore 6, 2), (31, .aload_n 0, 1), (32, .getfield 15, 3), (35, .iload 6, 2), (37, .dup2, 1), (38, .iaload, 1), (39, .iload_n 3, 1), (40, .iadd, 1), (41, .iastore, 1), (42, .aload_n 0, 1), (43, .getfield 15, 3), (46, .iload 6, 2), (48, .iconst 1, 1), (49, .iadd, 1), (50, .dup2, 1), (51, .iaload, 1), (52, .iload 4, 2), (54, .iadd, 1), (55, .iastore, 1), (56, .aload_n 0, 1), (57, .getfield 15, 3)]
set_option maxRecDepth 100000 in
theorem dX6_add_0_g : dX6_add_0_l.all (fun x => decide (decode cX6_add x.1 = .ok x.2)) = true := by decide +kernel
noncomputable def dX6_add_60_l : List (Nat × Instr × Nat) := [(60, .iload 6, 2), (62, .iconst 2, 1), (63, .iadd, 1), (64, .dup2, 1), (65, .iaload, 1), (66, .iload 5, 2), (68, .iadd, 1), (69, .iastore, 1), (70, .aload_n 0, 1), (71, .dup, 1), (72, .getfield 9, 3), (75, .iconst 1, 1), (76, .iadd, 1), (77, .putfield 9, 3), (80, .aload_n 0, 1), (81, .getfield 9, 3), (84, .ireturn, 1)]
set_option maxRecDepth 100000 in
theorem dX6_add_60_g : dX6_add_60_l.all (fun x => decide (decode cX6_add x.1 = .ok x.2)) = true := by decide +kernel
set_option maxRecDepth 100000 in
theorem ggX6_oddsOf_X10_within : GoodIn wsX6_oddsOf wsX10_within := goodIn_sub (sub_c (nq_m (n := 4) rfl) sub_n) gw_X10_within
set_option maxRecDepth 100000 in
theorem gX6_oddsOf_X10_within_n25 : GoodIn wsX6_oddsOf (wsX10_within) := ggX6_oddsOf_X10_within
noncomputable def dX6_oddsOf_0_l : List (Nat × Instr × Nat) := [(0, .iload_n 1, 1), (1, .iconst 0, 1), (2, .iconst 3, 1), (3, .invokestatic 25, 3), (6, .ifCond .eq 12, 3), (9, .iload_n 2, 1), (10, .iconst 0, 1), (11, .iconst 1, 1), (12, .invokestatic 25, 3), (15, .ifCond .ne 5, 3), (18, .iconst 0, 1), (19, .ireturn, 1), (20, .iload_n 1, 1), (21, .iconst 2, 1), (22, .imul, 1), (23, .iload_n 2, 1), (24, .iadd, 1), (25, .iconst 3, 1), (26, .imul, 1), (27, .istore 4, 2), (29, .aload_n 0, 1), (30, .getfield 15, 3), (33, .iload 4, 2), (35, .iaload, 1), (36, .aload_n 0, 1), (37, .getfield 15, 3), (40, .iload 4, 2), (42, .iconst 1, 1), (43, .iadd, 1), (44, .iaload, 1), (45, .iadd, 1), (46, .aload_n 0, 1), (47, .getfield 15, 3), (50, .iload 4, 2), (52, .iconst 2, 1), (53, .iadd, 1), (54, .iaload, 1), (55, .iadd, 1), (56, .iconst 3, 1), (57, .iadd, 1)]
set_option maxRecDepth 100000 in
theorem dX6_oddsOf_0_g : dX6_oddsOf_0_l.all (fun x => decide (decode cX6_oddsOf x.1 = .ok x.2)) = true := by decide +kernel
noncomputable def dX6_oddsOf_58_l : List (Nat × Instr × Nat) := [(58, .istore 5, 2), (60, .iload 5, 2), (62, .ifCond .gt 5, 3), (65, .iconst 0, 1), (66, .ireturn, 1), (67, .sipush 1000, 3), (70, .aload_n 0, 1), (71, .getfield 15, 3), (74, .iload 4, 2), (76, .iaload, 1), (77, .iconst 1, 1), (78, .iadd, 1), (79, .imul, 1), (80, .iload 5, 2), (82, .idiv, 1), (83, .istore 6, 2), (85, .sipush 1000, 3), (88, .aload_n 0, 1), (89, .getfield 15, 3), (92, .iload 4, 2), (94, .iconst 1, 1), (95, .iadd, 1), (96, .iaload, 1), (97, .iconst 1, 1), (98, .iadd, 1), (99, .imul, 1), (100, .iload 5, 2), (102, .idiv, 1), (103, .istore 7, 2), (105, .iload_n 3, 1), (106, .ifCond .ne 6, 3), (109, .iload 6, 2), (111, .ireturn, 1), (112, .iload_n 3, 1), (113, .iconst 1, 1), (114, .if_icmp .ne 8, 3), (117, .iload 7, 2), (119, .goto 12, 3), (122, .sipush 1000, 3), (125, .iload 6, 2)]
set_option maxRecDepth 100000 in
theorem dX6_oddsOf_58_g : dX6_oddsOf_58_l.all (fun x => decide (decode cX6_oddsOf x.1 = .ok x.2)) = true := by decide +kernel
noncomputable def dX6_oddsOf_127_l : List (Nat × Instr × Nat) := [(127, .isub, 1), (128, .iload 7, 2), (130, .isub, 1), (131, .ireturn, 1)]
set_option maxRecDepth 100000 in
theorem dX6_oddsOf_127_g : dX6_oddsOf_127_l.all (fun x => decide (decode cX6_oddsOf x.1 = .ok x.2)) = true := by decide +kernel
noncomputable def dX7_init_0_l : List (Nat × Instr × Nat) := [(0, .aload_n 0, 1), (1, .invokespecial 3, 3), (4, .aload_n 0, 1), (5, .bipush 16, 2), (7, .newarray .int, 2), (9, .putfield 9, 3), (12, .aload_n 0, 1), (13, .bipush 16, 2), (15, .newarray .int, 2), (17, .putfield 15, 3), (20, .aload_n 0, 1), (21, .bipush 24, 2), (23, .newarray .boolean, 2), (25, .putfield 18, 3), (28, .aload_n 0, 1), (29, .iconst 0, 1), (30, .putfield 22, 3), (33, .return_, 1)]
set_option maxRecDepth 100000 in
theorem dX7_init_0_g : dX7_init_0_l.all (fun x => decide (decode cX7_init x.1 = .ok x.2)) = true := by decide +kernel
set_option maxRecDepth 100000 in
theorem ggX7_pegOf_X10_within : GoodIn wsX7_pegOf wsX10_within := goodIn_sub (sub_c (nq_m (n := 4) rfl) sub_n) gw_X10_within
set_option maxRecDepth 100000 in
theorem gX7_pegOf_X10_within_n26 : GoodIn wsX7_pegOf (wsX10_within) := ggX7_pegOf_X10_within
noncomputable def dX7_pegOf_0_l : List (Nat × Instr × Nat) := [(0, .iload_n 1, 1), (1, .iconst 0, 1), (2, .bipush 15, 2), (4, .invokestatic 26, 3), (7, .ifCond .eq 12, 3), (10, .aload_n 0, 1), (11, .getfield 15, 3), (14, .iload_n 1, 1), (15, .iaload, 1), (16, .goto 4, 3), (19, .iconst (-1), 1), (20, .ireturn, 1)]
set_option maxRecDepth 100000 in
theorem dX7_pegOf_0_g : dX7_pegOf_0_l.all (fun x => decide (decode cX7_pegOf x.1 = .ok x.2)) = true := by decide +kernel
set_option maxRecDepth 100000 in
theorem gw_X7_greatestLeft : wsX7_greatestLeft.all goodWord = true := by decide +kernel
set_option maxRecDepth 100000 in
theorem ggX7_make_X7_greatestLeft : GoodIn wsX7_make wsX7_greatestLeft := goodIn_sub (sub_g [(10, []), (4, []), (3, [1, 44, 0, 0, 0, 0, 0, 0, 0]), (46, [0, 0, 0])] rfl) gw_X7_greatestLeft
set_option maxRecDepth 100000 in
theorem gX7_make_X7_greatestLeft : GoodIn wsX7_make (wsV RX7 35 RX7 yX7_greatestLeft wsX7_greatestLeft) := goodIn_app (goodIn_sub (sub_c (nq_m (n := 6) rfl) (sub_c (nq_m (n := 7) rfl) (sub_c (nq_m (n := 8) rfl) (sub_c (nq_m (n := 9) rfl) sub_n)))) (by decide +kernel)) ggX7_make_X7_greatestLeft
set_option maxRecDepth 100000 in
theorem ggX7_make_X2_kindOf : GoodIn wsX7_make wsX2_kindOf := goodIn_sub (sub_g [(15, [0, 0, 0, 0]), (14, [5, 0, 28, 0, 0, 0, 0, 0, 0, 0])] rfl) gw_X2_kindOf
set_option maxRecDepth 100000 in
theorem gX7_make_X2_kindOf : GoodIn wsX7_make (wsV RX7 39 RX2 yX2_kindOf wsX2_kindOf) := goodIn_app (goodIn_sub (sub_c (nq_m (n := 11) rfl) (sub_c (nq_m (n := 12) rfl) (sub_c (nq_m (n := 13) rfl) (sub_c (nq_m (n := 14) rfl) sub_n)))) (by decide +kernel)) ggX7_make_X2_kindOf
set_option maxRecDepth 100000 in
theorem gw_X7_leastWalkLeft : wsX7_leastWalkLeft.all goodWord = true := by decide +kernel
set_option maxRecDepth 100000 in
theorem ggX7_make_X7_leastWalkLeft : GoodIn wsX7_make wsX7_leastWalkLeft := goodIn_sub (sub_g [(25, [0]), (2, [24, 0, 0, 0, 0, 0, 0, 0, 0, 0, 0, 0, 19, 0, 0, 0, 0, 0, 0]), (46, [0, 0, 0])] rfl) gw_X7_leastWalkLeft
set_option maxRecDepth 100000 in
theorem gX7_make_X7_leastWalkLeft : GoodIn wsX7_make (wsV RX7 43 RX7 yX7_leastWalkLeft wsX7_leastWalkLeft) := goodIn_app (goodIn_sub (sub_c (nq_m (n := 22) rfl) (sub_c (nq_m (n := 23) rfl) (sub_c (nq_m (n := 24) rfl) (sub_c (nq_m (n := 9) rfl) sub_n)))) (by decide +kernel)) ggX7_make_X7_leastWalkLeft
set_option maxRecDepth 100000 in
theorem ggX7_make_X2_knows : GoodIn wsX7_make wsX2_knows := goodIn_sub (sub_g [(20, [0, 28, 0, 0, 0, 0, 0, 0, 0])] rfl) gw_X2_knows
set_option maxRecDepth 100000 in
theorem gX7_make_X2_knows : GoodIn wsX7_make (wsV RX7 47 RX2 yX2_knows wsX2_knows) := goodIn_app (goodIn_sub (sub_c (nq_m (n := 39) rfl) (sub_c (nq_m (n := 18) rfl) (sub_c (nq_m (n := 19) rfl) (sub_c (nq_m (n := 14) rfl) sub_n)))) (by decide +kernel)) ggX7_make_X2_knows
set_option maxRecDepth 100000 in
theorem ggX7_make_X3_hasPeg : GoodIn wsX7_make wsX3_hasPeg := goodIn_sub (sub_g [(37, [0, 19, 0, 0, 0, 0, 0, 0])] rfl) gw_X3_hasPeg
set_option maxRecDepth 100000 in
theorem gX7_make_X3_hasPeg : GoodIn wsX7_make (wsV RX7 51 RX3 yX3_hasPeg wsX3_hasPeg) := goodIn_app (goodIn_sub (sub_c (nq_m (n := 40) rfl) (sub_c (nq_m (n := 35) rfl) (sub_c (nq_m (n := 36) rfl) (sub_c (nq_m (n := 31) rfl) sub_n)))) (by decide +kernel)) ggX7_make_X3_hasPeg
set_option maxRecDepth 100000 in
theorem gw_X3_walkOf : wsX3_walkOf.all goodWord = true := by decide +kernel
set_option maxRecDepth 100000 in
theorem ggX7_make_X3_walkOf : GoodIn wsX7_make wsX3_walkOf := goodIn_sub (sub_g [(44, [0]), (34, [0, 0]), (31, [5, 0, 19, 0, 0, 0, 0, 0, 0])] rfl) gw_X3_walkOf
set_option maxRecDepth 100000 in
theorem gX7_make_X3_walkOf : GoodIn wsX7_make (wsV RX7 56 RX3 yX3_walkOf wsX3_walkOf) := goodIn_app (goodIn_sub (sub_c (nq_m (n := 41) rfl) (sub_c (nq_m (n := 42) rfl) (sub_c (nq_m (n := 43) rfl) (sub_c (nq_m (n := 31) rfl) sub_n)))) (by decide +kernel)) ggX7_make_X3_walkOf
noncomputable def dX7_make_0_l : List (Nat × Instr × Nat) := [(0, .aload_n 0, 1), (1, .iconst 0, 1), (2, .putfield 22, 3), (5, .iconst 0, 1), (6, .istore 4, 2), (8, .iload 4, 2), (10, .bipush 24, 2), (12, .if_icmp .ge 17, 3), (15, .aload_n 0, 1), (16, .getfield 18, 3), (19, .iload 4, 2), (21, .iconst 0, 1), (22, .bastore, 1), (23, .iinc 4 1, 3), (26, .goto (-18), 3), (29, .iconst 0, 1), (30, .istore 4, 2), (32, .iload 4, 2), (34, .bipush 16, 2), (36, .if_icmp .ge 17, 3), (39, .aload_n 0, 1), (40, .getfield 15, 3), (43, .iload 4, 2), (45, .iconst (-1), 1), (46, .iastore, 1), (47, .iinc 4 1, 3), (50, .goto (-18), 3), (53, .iconst 0, 1), (54, .istore 4, 2), (56, .iload 4, 2), (58, .aload_n 2, 1), (59, .getfield 30, 3), (62, .if_icmp .ge 98, 3), (65, .iload_n 1, 1), (66, .ifCond .eq 8, 3), (69, .iload 4, 2), (71, .goto 8, 3), (74, .aload_n 0, 1), (75, .aload_n 2, 1), (76, .invokevirtual 35, 3)]
set_option maxRecDepth 100000 in
theorem dX7_make_0_g : dX7_make_0_l.all (fun x => decide (decode cX7_make x.1 = .ok x.2)) = true := by decide +kernel
noncomputable def dX7_make_79_l : List (Nat × Instr × Nat) := [(79, .istore 5, 2), (81, .aload_n 0, 1), (82, .aload_n 2, 1), (83, .iload 5, 2), (85, .invokevirtual 39, 3), (88, .aload_n 3, 1), (89, .invokevirtual 43, 3), (92, .istore 6, 2), (94, .aload_n 2, 1), (95, .iload 5, 2), (97, .invokevirtual 47, 3), (100, .ifCond .eq 12, 3), (103, .aload_n 3, 1), (104, .iload 6, 2), (106, .invokevirtual 51, 3), (109, .ifCond .ne 5, 3), (112, .iconst 0, 1), (113, .ireturn, 1), (114, .aload_n 0, 1), (115, .getfield 15, 3), (118, .iload 5, 2), (120, .iload 6, 2), (122, .iastore, 1), (123, .aload_n 0, 1), (124, .getfield 18, 3), (127, .iload 6, 2), (129, .iconst 1, 1), (130, .bastore, 1), (131, .aload_n 0, 1), (132, .dup, 1), (133, .getfield 22, 3), (136, .aload_n 0, 1), (137, .getfield 9, 3), (140, .iload 5, 2), (142, .iaload, 1), (143, .aload_n 3, 1), (144, .iload 6, 2), (146, .invokevirtual 56, 3), (149, .imul, 1), (150, .iadd, 1)]
set_option maxRecDepth 100000 in
theorem dX7_make_79_g : dX7_make_79_l.all (fun x => decide (decode cX7_make x.1 = .ok x.2)) = true := by decide +kernel
noncomputable def dX7_make_151_l : List (Nat × Instr × Nat) := [(151, .putfield 22, 3), (154, .iinc 4 1, 3), (157, .goto (-101), 3), (160, .iconst 1, 1), (161, .ireturn, 1)]
set_option maxRecDepth 100000 in
theorem dX7_make_151_g : dX7_make_151_l.all (fun x => decide (decode cX7_make x.1 = .ok x.2)) = true := by decide +kernel
noncomputable def dX7_greatestLeft_0_l : List (Nat × Instr × Nat) := [(0, .iconst (-1), 1), (1, .istore_n 2, 1), (2, .iconst 0, 1), (3, .istore_n 3, 1), (4, .iload_n 3, 1), (5, .aload_n 1, 1), (6, .getfield 30, 3), (9, .if_icmp .ge 41, 3), (12, .aload_n 0, 1), (13, .getfield 15, 3), (16, .iload_n 3, 1), (17, .iaload, 1), (18, .iconst (-1), 1), (19, .if_icmp .ne 25, 3), (22, .iload_n 2, 1), (23, .iconst (-1), 1), (24, .if_icmp .eq 18, 3), (27, .aload_n 0, 1), (28, .getfield 9, 3), (31, .iload_n 3, 1), (32, .iaload, 1), (33, .aload_n 0, 1), (34, .getfield 9, 3), (37, .iload_n 2, 1), (38, .iaload, 1), (39, .if_icmp .le 5, 3), (42, .iload_n 3, 1), (43, .istore_n 2, 1), (44, .iinc 3 1, 3), (47, .goto (-43), 3), (50, .iload_n 2, 1), (51, .ireturn, 1)]
set_option maxRecDepth 100000 in
theorem dX7_greatestLeft_0_g : dX7_greatestLeft_0_l.all (fun x => decide (decode cX7_greatestLeft x.1 = .ok x.2)) = true := by decide +kernel
set_option maxRecDepth 100000 in
theorem gw_X3_isOfKind : wsX3_isOfKind.all goodWord = true := by decide +kernel
set_option maxRecDepth 100000 in
theorem ggX7_leastWalkLeft_X3_isOfKind : GoodIn wsX7_leastWalkLeft wsX3_isOfKind := goodIn_sub (sub_g [(8, [0, 0, 0, 0]), (7, [5, 0, 0, 0, 0, 0, 0, 0, 0])] rfl) gw_X3_isOfKind
set_option maxRecDepth 100000 in
theorem gX7_leastWalkLeft_X3_isOfKind : GoodIn wsX7_leastWalkLeft (wsV RX7 62 RX3 yX3_isOfKind wsX3_isOfKind) := goodIn_app (goodIn_sub (sub_c (nq_m (n := 4) rfl) (sub_c (nq_m (n := 5) rfl) (sub_c (nq_m (n := 6) rfl) (sub_c (nq_m (n := 7) rfl) sub_n)))) (by decide +kernel)) ggX7_leastWalkLeft_X3_isOfKind
noncomputable def dX7_leastWalkLeft_0_l : List (Nat × Instr × Nat) := [(0, .iconst (-1), 1), (1, .istore_n 3, 1), (2, .iconst 0, 1), (3, .istore 4, 2), (5, .iload 4, 2), (7, .aload_n 2, 1), (8, .getfield 59, 3), (11, .if_icmp .ge 65, 3), (14, .aload_n 0, 1), (15, .getfield 18, 3), (18, .iload 4, 2), (20, .baload, 1), (21, .ifCond .ne 17, 3), (24, .aload_n 2, 1), (25, .iload 4, 2), (27, .iload_n 1, 1), (28, .invokevirtual 62, 3), (31, .ifCond .eq 7, 3), (34, .iconst 1, 1), (35, .goto 4, 3), (38, .iconst 0, 1), (39, .istore 5, 2), (41, .iload 5, 2), (43, .ifCond .eq 27, 3), (46, .iload_n 3, 1), (47, .iconst (-1), 1), (48, .if_icmp .eq 19, 3), (51, .aload_n 2, 1), (52, .getfield 66, 3), (55, .iload 4, 2), (57, .iaload, 1), (58, .aload_n 2, 1), (59, .getfield 66, 3), (62, .iload_n 3, 1), (63, .iaload, 1), (64, .if_icmp .ge 6, 3), (67, .iload 4, 2), (69, .istore_n 3, 1), (70, .iinc 4 1, 3), (73, .goto (-68), 3)]
set_option maxRecDepth 100000 in
theorem dX7_leastWalkLeft_0_g : dX7_leastWalkLeft_0_l.all (fun x => decide (decode cX7_leastWalkLeft x.1 = .ok x.2)) = true := by decide +kernel
noncomputable def dX7_leastWalkLeft_76_l : List (Nat × Instr × Nat) := [(76, .iload_n 3, 1), (77, .ireturn, 1)]
set_option maxRecDepth 100000 in
theorem dX7_leastWalkLeft_76_g : dX7_leastWalkLeft_76_l.all (fun x => decide (decode cX7_leastWalkLeft x.1 = .ok x.2)) = true := by decide +kernel
set_option maxRecDepth 100000 in
theorem gw_X3_init : wsX3_init.all goodWord = true := by decide +kernel
set_option maxRecDepth 100000 in
theorem ggX8_init_X3_init : GoodIn wsX8_init wsX3_init := goodIn_sub (sub_g [(17, [0]), (2, [0, 15, 0, 0, 0, 0, 0, 0, 0, 8, 0, 0, 0, 0, 0, 0])] rfl) gw_X3_init
set_option maxRecDepth 100000 in
theorem gX8_init_X3_init_n36 : GoodIn wsX8_init (wsX3_init) := ggX8_init_X3_init
noncomputable def dX8_init_0_l : List (Nat × Instr × Nat) := [(0, .aload_n 0, 1), (1, .invokespecial 3, 3), (4, .aload_n 0, 1), (5, .sipush 240, 3), (8, .newarray .byte, 2), (10, .putfield 9, 3), (13, .aload_n 0, 1), (14, .iconst 0, 1), (15, .putfield 15, 3), (18, .aload_n 0, 1), (19, .iconst (-1), 1), (20, .putfield 19, 3), (23, .aload_n 0, 1), (24, .iconst 0, 1), (25, .putfield 22, 3), (28, .aload_n 0, 1), (29, .iconst 0, 1), (30, .putfield 25, 3), (33, .aload_n 0, 1), (34, .iconst 0, 1), (35, .putfield 28, 3), (38, .aload_n 0, 1), (39, .iconst 0, 1), (40, .putfield 31, 3), (43, .aload_n 0, 1), (44, .new 34, 3), (47, .dup, 1), (48, .invokespecial 36, 3), (51, .putfield 37, 3), (54, .return_, 1)]
set_option maxRecDepth 100000 in
theorem dX8_init_0_g : dX8_init_0_l.all (fun x => decide (decode cX8_init x.1 = .ok x.2)) = true := by decide +kernel
noncomputable def dX8_append_0_l : List (Nat × Instr × Nat) := [(0, .iload_n 1, 1), (1, .iconst 1, 1), (2, .isub, 1), (3, .istore 4, 2), (5, .iload 4, 2), (7, .ifCond .lt 47, 3), (10, .aload_n 0, 1), (11, .getfield 15, 3), (14, .sipush 240, 3), (17, .if_icmp .ge 37, 3), (20, .aload_n 0, 1), (21, .getfield 9, 3), (24, .aload_n 0, 1), (25, .getfield 15, 3), (28, .lload_n 2, 1), (29, .bipush 8, 2), (31, .iload 4, 2), (33, .imul, 1), (34, .lushr, 1), (35, .l2i, 1), (36, .i2b, 1), (37, .bastore, 1), (38, .aload_n 0, 1), (39, .dup, 1), (40, .getfield 15, 3), (43, .iconst 1, 1), (44, .iadd, 1), (45, .putfield 15, 3), (48, .iinc 4 (-1), 3), (51, .goto (-46), 3), (54, .aload_n 0, 1), (55, .getfield 15, 3), (58, .ireturn, 1)]
set_option maxRecDepth 100000 in
theorem dX8_append_0_g : dX8_append_0_l.all (fun x => decide (decode cX8_append x.1 = .ok x.2)) = true := by decide +kernel
set_option maxRecDepth 100000 in
theorem gw_X3_clear : wsX3_clear.all goodWord = true := by decide +kernel
set_option maxRecDepth 100000 in
theorem ggX8_read_X3_clear : GoodIn wsX8_read wsX3_clear := goodIn_sub (sub_g [(11, [0, 0, 0, 0, 0, 0]), (10, [7, 0, 0, 0, 0, 0, 0, 0, 0, 0, 123, 0, 0, 0, 0, 0, 0])] rfl) gw_X3_clear
set_option maxRecDepth 100000 in
theorem gX8_read_X3_clear : GoodIn wsX8_read (wsV RX8 41 RX3 yX3_clear wsX3_clear) := goodIn_app (goodIn_sub (sub_c (nq_m (n := 7) rfl) (sub_c (nq_m (n := 8) rfl) (sub_c (nq_m (n := 9) rfl) (sub_c (nq_m (n := 10) rfl) sub_n)))) (by decide +kernel)) ggX8_read_X3_clear
set_option maxRecDepth 100000 in
theorem gw_X8_skipBlanks : wsX8_skipBlanks.all goodWord = true := by decide +kernel
set_option maxRecDepth 100000 in
theorem ggX8_read_X8_skipBlanks : GoodIn wsX8_read wsX8_skipBlanks := goodIn_sub (sub_g [(32, []), (4, [1, 26, 0, 0]), (31, [4, 0, 105, 0, 0, 0, 0, 0, 0, 0])] rfl) gw_X8_skipBlanks
set_option maxRecDepth 100000 in
theorem gX8_read_X8_skipBlanks : GoodIn wsX8_read (wsV RX8 44 RX8 yX8_skipBlanks wsX8_skipBlanks) := goodIn_app (goodIn_sub (sub_c (nq_m (n := 28) rfl) (sub_c (nq_m (n := 29) rfl) (sub_c (nq_m (n := 30) rfl) (sub_c (nq_m (n := 31) rfl) sub_n)))) (by decide +kernel)) ggX8_read_X8_skipBlanks
set_option maxRecDepth 100000 in
theorem gw_X8_readClause : wsX8_readClause.all goodWord = true := by decide +kernel
set_option maxRecDepth 100000 in
theorem ggX8_read_X8_readClause : GoodIn wsX8_read wsX8_readClause := goodIn_sub (sub_g [(41, []), (4, []), (1, [40, 0, 0, 0, 0]), (31, [15, 0, 0, 0, 0, 0, 0, 0, 0, 0, 0, 0, 0]), (33, [0, 0, 0]), (6, [30, 22, 0, 0, 0, 0, 0, 0, 0, 0, 0, 0, 0, 0, 0, 0, 0, 0, 0, 0, 0, 0, 0, 0, 0, 0, 0, 0, 0, 0, 0, 0, 0, 0, 0, 0, 0, 0, 0, 0, 0, 0, 0, 0]), (2, [100, 0, 0, 0]), (28, [0, 0, 1, 74, 0, 0, 0]), (3, [107, 0, 0, 0, 0, 0, 0, 0]), (25, [0, 0, 91, 0, 0, 0, 0, 0, 0]), (10, [115]), (12, [114, 0, 0, 0, 0, 0, 0, 0, 0, 0]), (5, [131]), (21, [0, 0, 0, 113, 0, 0, 0, 0]), (16, [0, 0, 0, 123, 0, 0, 0, 0, 0, 0, 0, 0, 0, 0, 0, 0, 0, 0])] rfl) gw_X8_readClause
set_option maxRecDepth 100000 in
theorem gX8_read_X8_readClause : GoodIn wsX8_read (wsV RX8 47 RX8 yX8_readClause wsX8_readClause) := goodIn_app (goodIn_sub (sub_c (nq_m (n := 38) rfl) (sub_c (nq_m (n := 39) rfl) (sub_c (nq_m (n := 40) rfl) (sub_c (nq_m (n := 31) rfl) sub_n)))) (by decide +kernel)) ggX8_read_X8_readClause
noncomputable def dX8_read_0_l : List (Nat × Instr × Nat) := [(0, .aload_n 0, 1), (1, .getfield 37, 3), (4, .invokevirtual 41, 3), (7, .aload_n 0, 1), (8, .iconst 0, 1), (9, .putfield 22, 3), (12, .aload_n 0, 1), (13, .iconst (-1), 1), (14, .putfield 19, 3), (17, .aload_n 0, 1), (18, .iconst 0, 1), (19, .putfield 25, 3), (22, .aload_n 0, 1), (23, .iconst 0, 1), (24, .putfield 31, 3), (27, .aload_n 0, 1), (28, .invokevirtual 44, 3), (31, .iconst 0, 1), (32, .istore_n 1, 1), (33, .iload_n 1, 1), (34, .sipush 240, 3), (37, .if_icmp .ge 35, 3), (40, .aload_n 0, 1), (41, .getfield 22, 3), (44, .ifCond .ne 28, 3), (47, .aload_n 0, 1), (48, .getfield 25, 3), (51, .aload_n 0, 1), (52, .getfield 15, 3), (55, .if_icmp .ge 17, 3), (58, .aload_n 0, 1), (59, .invokevirtual 47, 3), (62, .aload_n 0, 1), (63, .invokevirtual 44, 3), (66, .iinc 1 1, 3), (69, .goto (-36), 3), (72, .aload_n 0, 1), (73, .iconst 0, 1), (74, .putfield 15, 3), (77, .aload_n 0, 1)]
set_option maxRecDepth 100000 in
theorem dX8_read_0_g : dX8_read_0_l.all (fun x => decide (decode cX8_read x.1 = .ok x.2)) = true := by decide +kernel
noncomputable def dX8_read_78_l : List (Nat × Instr × Nat) := [(78, .getfield 22, 3), (81, .ireturn, 1)]
set_option maxRecDepth 100000 in
theorem dX8_read_78_g : dX8_read_78_l.all (fun x => decide (decode cX8_read x.1 = .ok x.2)) = true := by decide +kernel
noncomputable def dX8_changeDraft_0_l : List (Nat × Instr × Nat) := [(0, .aload_n 0, 1), (1, .getfield 37, 3), (4, .astore_n 2, 1), (5, .aload_n 0, 1), (6, .aload_n 1, 1), (7, .putfield 37, 3), (10, .aload_n 2, 1), (11, .areturn, 1)]
set_option maxRecDepth 100000 in
theorem dX8_changeDraft_0_g : dX8_changeDraft_0_l.all (fun x => decide (decode cX8_changeDraft x.1 = .ok x.2)) = true := by decide +kernel
set_option maxRecDepth 100000 in
theorem gw_X8_isHere : wsX8_isHere.all goodWord = true := by decide +kernel
set_option maxRecDepth 100000 in
theorem ggX8_readClause_X8_isHere : GoodIn wsX8_readClause wsX8_isHere := goodIn_sub (sub_g [(9, []), (1, [8, 0, 0, 0, 0, 0, 0, 0, 0, 0, 0, 0, 0, 0, 0]), (8, [16, 0, 0, 0, 0, 0, 0, 0, 0, 0, 0, 0, 0, 0, 0, 0, 0, 0, 0, 0, 0, 0, 0, 0, 0, 0, 0, 0, 0, 0, 0, 0, 0, 0, 0, 0, 0, 0, 0, 0, 66, 0, 0, 0, 0, 0, 0, 0])] rfl) gw_X8_isHere
set_option maxRecDepth 100000 in
theorem gX8_readClause_X8_isHere : GoodIn wsX8_readClause (wsV RX8 52 RX8 yX8_isHere wsX8_isHere) := goodIn_app (goodIn_sub (sub_c (nq_m (n := 5) rfl) (sub_c (nq_m (n := 6) rfl) (sub_c (nq_m (n := 7) rfl) (sub_c (nq_m (n := 8) rfl) sub_n)))) (by decide +kernel)) ggX8_readClause_X8_isHere
set_option maxRecDepth 100000 in
theorem gw_X8_readRow : wsX8_readRow.all goodWord = true := by decide +kernel
set_option maxRecDepth 100000 in
theorem ggX8_readClause_X8_readRow : GoodIn wsX8_readClause wsX8_readRow := goodIn_sub (sub_g [(68, []), (2, [66, 0, 0, 0, 0, 0]), (8, [66]), (1, [74, 0, 0, 0]), (26, []), (22, [0, 0, 0, 1]), (5, [0, 0, 1, 0, 0, 0, 0, 0, 0, 0, 0, 0, 0, 0, 0, 6, 0, 0, 0, 0, 0, 0, 0, 0, 0, 0, 0, 0, 0, 0, 0, 0, 0, 0, 0, 0, 0, 0, 0, 0, 0, 0, 0, 0, 0, 0, 0, 0, 0, 0, 0, 0, 15, 0, 0, 0, 0, 0, 0, 0, 0, 0, 0, 0, 0, 0, 0, 0, 0, 0, 0, 0, 0, 0, 0, 0, 0, 0, 0, 0, 23, 0, 0, 0, 0, 0, 0, 0, 0, 0, 0, 0, 0, 0, 0])] rfl) gw_X8_readRow
set_option maxRecDepth 100000 in
theorem gX8_readClause_X8_readRow : GoodIn wsX8_readClause (wsV RX8 56 RX8 yX8_readRow wsX8_readRow) := goodIn_app (goodIn_sub (sub_c (nq_m (n := 65) rfl) (sub_c (nq_m (n := 66) rfl) (sub_c (nq_m (n := 67) rfl) (sub_c (nq_m (n := 8) rfl) sub_n)))) (by decide +kernel)) ggX8_readClause_X8_readRow
set_option maxRecDepth 100000 in
theorem gw_X8_readOdds : wsX8_readOdds.all goodWord = true := by decide +kernel
set_option maxRecDepth 100000 in
theorem ggX8_readClause_X8_readOdds : GoodIn wsX8_readClause wsX8_readOdds := goodIn_sub (sub_g [(111, []), (70, []), (2, [69, 0, 0]), (8, [66]), (1, [74, 0, 0, 0]), (26, []), (22, [0, 0, 0, 1]), (5, [0, 0, 1, 0, 0, 0, 0, 0, 0, 0, 0, 0, 0, 0, 0, 6, 0, 0, 0, 0, 0, 0, 0, 0, 0, 0, 0, 0, 0, 0, 0, 0, 0, 0, 0, 0, 0, 0, 0, 0, 0, 0, 0, 0, 0, 0, 0, 0, 0, 0, 0, 0, 15, 0, 0, 0]), (71, [12, 0, 0, 0, 0, 0, 0, 0, 0, 0, 0, 0, 16, 0, 0, 0, 0]), (96, [0, 0, 0, 17, 0, 0]), (103, [16, 0, 9, 0, 0, 0, 0, 0, 0, 0, 0, 0, 0, 0, 0, 0, 0])] rfl) gw_X8_readOdds
set_option maxRecDepth 100000 in
theorem gX8_readClause_X8_readOdds : GoodIn wsX8_readClause (wsV RX8 61 RX8 yX8_readOdds wsX8_readOdds) := goodIn_app (goodIn_sub (sub_c (nq_m (n := 108) rfl) (sub_c (nq_m (n := 109) rfl) (sub_c (nq_m (n := 110) rfl) (sub_c (nq_m (n := 8) rfl) sub_n)))) (by decide +kernel)) ggX8_readClause_X8_readOdds
set_option maxRecDepth 100000 in
theorem gw_X8_tellOnce : wsX8_tellOnce.all goodWord = true := by decide +kernel
set_option maxRecDepth 100000 in
theorem ggX8_readClause_X8_tellOnce : GoodIn wsX8_readClause wsX8_tellOnce := goodIn_sub (sub_g [(115, [0]), (80, [0, 0]), (8, [74]), (71, [12, 46, 0, 0, 0, 0, 0, 0, 0])] rfl) gw_X8_tellOnce
set_option maxRecDepth 100000 in
theorem gX8_readClause_X8_tellOnce : GoodIn wsX8_readClause (wsV RX8 66 RX8 yX8_tellOnce wsX8_tellOnce) := goodIn_app (goodIn_sub (sub_c (nq_m (n := 112) rfl) (sub_c (nq_m (n := 113) rfl) (sub_c (nq_m (n := 114) rfl) (sub_c (nq_m (n := 8) rfl) sub_n)))) (by decide +kernel)) ggX8_readClause_X8_tellOnce
set_option maxRecDepth 100000 in
theorem gw_X8_readWeights : wsX8_readWeights.all goodWord = true := by decide +kernel
set_option maxRecDepth 100000 in
theorem ggX8_readClause_X8_readWeights : GoodIn wsX8_readClause wsX8_readWeights := goodIn_sub (sub_g [(125, []), (2, [69, 0, 0]), (8, [66]), (1, [74, 0, 0, 0]), (26, []), (22, [0, 0, 0, 1]), (5, [0, 0, 1, 0, 0, 0, 0, 0, 0, 0, 0, 0, 0, 0, 0, 6, 0, 0, 0, 0, 0, 0, 0, 0, 0, 0, 0, 0, 0, 0, 0, 0, 0, 0, 0, 0, 0, 0, 0, 0, 0, 0, 0, 0, 0, 0, 0, 0, 0, 0, 0, 0, 15, 0, 0, 0]), (71, [12, 0, 0, 0, 0]), (70, [18, 0, 0, 0, 0, 0, 0, 0, 0, 0, 0, 26, 0, 0]), (103, [25, 0, 0, 0, 0, 0, 0, 0, 0, 0, 0, 0, 0, 0, 0, 0, 0])] rfl) gw_X8_readWeights
set_option maxRecDepth 100000 in
theorem gX8_readClause_X8_readWeights : GoodIn wsX8_readClause (wsV RX8 70 RX8 yX8_readWeights wsX8_readWeights) := goodIn_app (goodIn_sub (sub_c (nq_m (n := 122) rfl) (sub_c (nq_m (n := 123) rfl) (sub_c (nq_m (n := 124) rfl) (sub_c (nq_m (n := 8) rfl) sub_n)))) (by decide +kernel)) ggX8_readClause_X8_readWeights
set_option maxRecDepth 100000 in
theorem gw_X8_needWord : wsX8_needWord.all goodWord = true := by decide +kernel
set_option maxRecDepth 100000 in
theorem ggX8_readClause_X8_needWord : GoodIn wsX8_readClause wsX8_needWord := goodIn_sub (sub_g [(75, []), (1, [74, 0, 0]), (8, [70]), (26, []), (22, [0, 0, 0, 1]), (5, [0, 0, 1, 0, 0, 0, 0, 0, 0, 0, 0, 0, 0, 0, 0, 6, 0, 0, 0, 0, 0, 0, 0, 0, 0, 0, 0, 0, 0, 0, 0, 0, 0, 0, 0, 0, 0, 0, 0, 0, 0, 0, 0, 0, 0, 0, 0, 0, 0, 0, 0, 0, 15, 0, 0, 0]), (71, [12, 46, 0, 0, 0, 0, 0, 0, 0])] rfl) gw_X8_needWord
set_option maxRecDepth 100000 in
theorem gX8_readClause_X8_needWord : GoodIn wsX8_readClause (wsV RX8 75 RX8 yX8_needWord wsX8_needWord) := goodIn_app (goodIn_sub (sub_c (nq_m (n := 72) rfl) (sub_c (nq_m (n := 73) rfl) (sub_c (nq_m (n := 74) rfl) (sub_c (nq_m (n := 8) rfl) sub_n)))) (by decide +kernel)) ggX8_readClause_X8_needWord
set_option maxRecDepth 100000 in
theorem gw_X8_needNumber : wsX8_needNumber.all goodWord = true := by decide +kernel
set_option maxRecDepth 100000 in
theorem ggX8_readClause_X8_needNumber : GoodIn wsX8_readClause wsX8_needNumber := goodIn_sub (sub_g [(88, []), (1, [68]), (26, [49, 0, 0]), (8, [70]), (22, [0, 0, 0, 1, 61, 0, 0, 0, 0, 0, 0]), (80, [0, 0, 0]), (71, [12, 46, 0, 0, 0, 0, 0, 0, 0])] rfl) gw_X8_needNumber
set_option maxRecDepth 100000 in
theorem gX8_readClause_X8_needNumber : GoodIn wsX8_readClause (wsV RX8 79 RX8 yX8_needNumber wsX8_needNumber) := goodIn_app (goodIn_sub (sub_c (nq_m (n := 85) rfl) (sub_c (nq_m (n := 86) rfl) (sub_c (nq_m (n := 87) rfl) (sub_c (nq_m (n := 8) rfl) sub_n)))) (by decide +kernel)) ggX8_readClause_X8_needNumber
set_option maxRecDepth 100000 in
theorem gw_X8_needEnd : wsX8_needEnd.all goodWord = true := by decide +kernel
set_option maxRecDepth 100000 in
theorem ggX8_readClause_X8_needEnd : GoodIn wsX8_readClause wsX8_needEnd := goodIn_sub (sub_g [(99, []), (1, [74, 0, 0]), (8, [70]), (26, []), (22, [0, 0, 0, 1, 52, 0, 0, 0]), (71, [12, 46, 0, 0, 0, 0, 0, 0, 0])] rfl) gw_X8_needEnd
set_option maxRecDepth 100000 in
theorem gX8_readClause_X8_needEnd : GoodIn wsX8_readClause (wsV RX8 83 RX8 yX8_needEnd wsX8_needEnd) := goodIn_app (goodIn_sub (sub_c (nq_m (n := 96) rfl) (sub_c (nq_m (n := 97) rfl) (sub_c (nq_m (n := 98) rfl) (sub_c (nq_m (n := 8) rfl) sub_n)))) (by decide +kernel)) ggX8_readClause_X8_needEnd
set_option maxRecDepth 100000 in
theorem gw_X8_fail : wsX8_fail.all goodWord = true := by decide +kernel
set_option maxRecDepth 100000 in
theorem ggX8_readClause_X8_fail : GoodIn wsX8_readClause wsX8_fail := goodIn_sub (sub_g [(83, []), (71, [12, 46, 0, 0, 0, 0, 0, 0, 0])] rfl) gw_X8_fail
set_option maxRecDepth 100000 in
theorem gX8_readClause_X8_fail : GoodIn wsX8_readClause (wsV RX8 94 RX8 yX8_fail wsX8_fail) := goodIn_app (goodIn_sub (sub_c (nq_m (n := 80) rfl) (sub_c (nq_m (n := 81) rfl) (sub_c (nq_m (n := 82) rfl) (sub_c (nq_m (n := 8) rfl) sub_n)))) (by decide +kernel)) ggX8_readClause_X8_fail
noncomputable def dX8_readClause_0_l : List (Nat × Instr × Nat) := [(0, .aload_n 0, 1), (1, .getfield 25, 3), (4, .istore_n 1, 1), (5, .aload_n 0, 1), (6, .ldc 50, 2), (8, .invokevirtual 52, 3), (11, .ifCond .eq 10, 3), (14, .aload_n 0, 1), (15, .invokevirtual 56, 3), (18, .goto 138, 3), (21, .aload_n 0, 1), (22, .ldc 59, 2), (24, .invokevirtual 52, 3), (27, .ifCond .eq 10, 3), (30, .aload_n 0, 1), (31, .invokevirtual 61, 3), (34, .goto 122, 3), (37, .aload_n 0, 1), (38, .ldc 64, 2), (40, .invokevirtual 52, 3), (43, .ifCond .eq 17, 3), (46, .aload_n 0, 1), (47, .bipush 16, 2), (49, .iload_n 1, 1), (50, .invokevirtual 66, 3), (53, .aload_n 0, 1), (54, .invokevirtual 70, 3), (57, .goto 99, 3), (60, .aload_n 0, 1), (61, .ldc 73, 2), (63, .invokevirtual 52, 3), (66, .ifCond .eq 39, 3), (69, .aload_n 0, 1), (70, .bipush 32, 2), (72, .iload_n 1, 1), (73, .invokevirtual 66, 3), (76, .aload_n 0, 1), (77, .ldc 73, 2), (79, .invokevirtual 75, 3), (82, .aload_n 0, 1)]
set_option maxRecDepth 100000 in
theorem dX8_readClause_0_g : dX8_readClause_0_l.all (fun x => decide (decode cX8_readClause x.1 = .ok x.2)) = true := by decide +kernel
noncomputable def dX8_readClause_83_l : List (Nat × Instr × Nat) := [(83, .iconst 0, 1), (84, .bipush 20, 2), (86, .invokevirtual 79, 3), (89, .istore_n 2, 1), (90, .aload_n 0, 1), (91, .invokevirtual 83, 3), (94, .aload_n 0, 1), (95, .getfield 37, 3), (98, .iload_n 2, 1), (99, .putfield 86, 3), (102, .goto 54, 3), (105, .aload_n 0, 1), (106, .ldc 89, 2), (108, .invokevirtual 52, 3), (111, .ifCond .eq 39, 3), (114, .aload_n 0, 1), (115, .bipush 64, 2), (117, .iload_n 1, 1), (118, .invokevirtual 66, 3), (121, .aload_n 0, 1), (122, .ldc 89, 2), (124, .invokevirtual 75, 3), (127, .aload_n 0, 1), (128, .iconst 0, 1), (129, .bipush 20, 2), (131, .invokevirtual 79, 3), (134, .istore_n 2, 1), (135, .aload_n 0, 1), (136, .invokevirtual 83, 3), (139, .aload_n 0, 1), (140, .getfield 37, 3), (143, .iload_n 2, 1), (144, .putfield 91, 3), (147, .goto 9, 3), (150, .aload_n 0, 1), (151, .iconst 1, 1), (152, .iload_n 1, 1), (153, .invokevirtual 94, 3), (156, .return_, 1)]
set_option maxRecDepth 100000 in
theorem dX8_readClause_83_g : dX8_readClause_83_l.all (fun x => decide (decode cX8_readClause x.1 = .ok x.2)) = true := by decide +kernel
set_option maxRecDepth 100000 in
theorem ggX8_readRow_X8_needWord : GoodIn wsX8_readRow wsX8_needWord := goodIn_sub (sub_g [(9, [0, 0, 0, 0]), (8, [5, 0, 0, 0, 0, 0, 0, 0, 0, 0, 0, 0, 0, 0, 0, 0, 0, 0, 0, 0, 0, 0, 0, 0, 0, 0, 0, 0, 0, 0, 0, 0, 0, 0, 0, 0, 0, 0, 0, 0, 0, 0, 0, 0, 0, 0, 0, 0, 0, 0, 0, 0, 0, 0, 0, 0, 0, 0, 0, 0, 0, 0, 0, 0]), (4, [73, 23, 0, 0, 0, 0, 0, 0, 0])] rfl) gw_X8_needWord
set_option maxRecDepth 100000 in
theorem gX8_readRow_X8_needWord : GoodIn wsX8_readRow (wsV RX8 75 RX8 yX8_needWord wsX8_needWord) := goodIn_app (goodIn_sub (sub_c (nq_m (n := 5) rfl) (sub_c (nq_m (n := 6) rfl) (sub_c (nq_m (n := 7) rfl) (sub_c (nq_m (n := 8) rfl) sub_n)))) (by decide +kernel)) ggX8_readRow_X8_needWord
set_option maxRecDepth 100000 in
theorem ggX8_readRow_X8_needNumber : GoodIn wsX8_readRow wsX8_needNumber := goodIn_sub (sub_g [(82, []), (10, []), (3, [11]), (11, [0, 0]), (8, [5, 1, 0, 0, 0, 0, 62, 0, 0, 0, 0, 0, 0]), (74, [0, 0, 0]), (4, [73, 23, 0, 0, 0, 0, 0, 0, 0])] rfl) gw_X8_needNumber
set_option maxRecDepth 100000 in
theorem gX8_readRow_X8_needNumber : GoodIn wsX8_readRow (wsV RX8 79 RX8 yX8_needNumber wsX8_needNumber) := goodIn_app (goodIn_sub (sub_c (nq_m (n := 79) rfl) (sub_c (nq_m (n := 80) rfl) (sub_c (nq_m (n := 81) rfl) (sub_c (nq_m (n := 8) rfl) sub_n)))) (by decide +kernel)) ggX8_readRow_X8_needNumber
set_option maxRecDepth 100000 in
theorem ggX8_readRow_X8_fail : GoodIn wsX8_readRow wsX8_fail := goodIn_sub (sub_g [(77, []), (4, [73, 23, 0, 0, 0, 0, 0, 0, 0])] rfl) gw_X8_fail
set_option maxRecDepth 100000 in
theorem gX8_readRow_X8_fail : GoodIn wsX8_readRow (wsV RX8 94 RX8 yX8_fail wsX8_fail) := goodIn_app (goodIn_sub (sub_c (nq_m (n := 74) rfl) (sub_c (nq_m (n := 75) rfl) (sub_c (nq_m (n := 76) rfl) (sub_c (nq_m (n := 8) rfl) sub_n)))) (by decide +kernel)) ggX8_readRow_X8_fail
set_option maxRecDepth 100000 in
theorem ggX8_readRow_X8_needEnd : GoodIn wsX8_readRow wsX8_needEnd := goodIn_sub (sub_g [(93, []), (10, [0, 0, 0]), (8, [5, 0, 0, 0, 0, 0, 0, 53, 0, 0, 0]), (4, [73, 23, 0, 0, 0, 0, 0, 0, 0])] rfl) gw_X8_needEnd
set_option maxRecDepth 100000 in
theorem gX8_readRow_X8_needEnd : GoodIn wsX8_readRow (wsV RX8 83 RX8 yX8_needEnd wsX8_needEnd) := goodIn_app (goodIn_sub (sub_c (nq_m (n := 90) rfl) (sub_c (nq_m (n := 91) rfl) (sub_c (nq_m (n := 92) rfl) (sub_c (nq_m (n := 8) rfl) sub_n)))) (by decide +kernel)) ggX8_readRow_X8_needEnd
set_option maxRecDepth 100000 in
theorem gw_X3_addRow : wsX3_addRow.all goodWord = true := by decide +kernel
set_option maxRecDepth 100000 in
theorem ggX8_readRow_X3_addRow : GoodIn wsX8_readRow wsX3_addRow := goodIn_sub (sub_g [(98, [0, 0, 0, 8, 0, 0, 0, 0, 0, 0])] rfl) gw_X3_addRow
set_option maxRecDepth 100000 in
theorem gX8_readRow_X3_addRow : GoodIn wsX8_readRow (wsV RX8 104 RX3 yX3_addRow wsX3_addRow) := goodIn_app (goodIn_sub (sub_c (nq_m (n := 94) rfl) (sub_c (nq_m (n := 95) rfl) (sub_c (nq_m (n := 96) rfl) (sub_c (nq_m (n := 97) rfl) sub_n)))) (by decide +kernel)) ggX8_readRow_X3_addRow
noncomputable def dX8_readRow_0_l : List (Nat × Instr × Nat) := [(0, .aload_n 0, 1), (1, .ldc 50, 2), (3, .invokevirtual 75, 3), (6, .aload_n 0, 1), (7, .iconst 1, 1), (8, .bipush 24, 2), (10, .invokevirtual 79, 3), (13, .istore_n 1, 1), (14, .aload_n 0, 1), (15, .getfield 37, 3), (18, .getfield 97, 3), (21, .iload_n 1, 1), (22, .iadd, 1), (23, .bipush 24, 2), (25, .if_icmp .le 12, 3), (28, .aload_n 0, 1), (29, .iconst 4, 1), (30, .aload_n 0, 1), (31, .getfield 28, 3), (34, .invokevirtual 94, 3), (37, .aload_n 0, 1), (38, .ldc 100, 2), (40, .invokevirtual 75, 3), (43, .aload_n 0, 1), (44, .iconst 0, 1), (45, .iconst 2, 1), (46, .invokevirtual 79, 3), (49, .istore_n 2, 1), (50, .aload_n 0, 1), (51, .ldc 102, 2), (53, .invokevirtual 75, 3), (56, .aload_n 0, 1), (57, .iconst 0, 1), (58, .bipush 99, 2), (60, .invokevirtual 79, 3), (63, .istore_n 3, 1), (64, .aload_n 0, 1), (65, .invokevirtual 83, 3), (68, .aload_n 0, 1), (69, .getfield 22, 3)]
set_option maxRecDepth 100000 in
theorem dX8_readRow_0_g : dX8_readRow_0_l.all (fun x => decide (decode cX8_readRow x.1 = .ok x.2)) = true := by decide +kernel
noncomputable def dX8_readRow_72_l : List (Nat × Instr × Nat) := [(72, .ifCond .ne 13, 3), (75, .aload_n 0, 1), (76, .getfield 37, 3), (79, .iload_n 1, 1), (80, .iload_n 2, 1), (81, .iload_n 3, 1), (82, .invokevirtual 104, 3), (85, .return_, 1)]
set_option maxRecDepth 100000 in
theorem dX8_readRow_72_g : dX8_readRow_72_l.all (fun x => decide (decode cX8_readRow x.1 = .ok x.2)) = true := by decide +kernel
set_option maxRecDepth 100000 in
theorem ggX8_readOdds_X8_needWord : GoodIn wsX8_readOdds wsX8_needWord := goodIn_sub (sub_g [(7, [0, 0, 0, 0]), (6, [5, 0, 0, 0, 0, 0, 0, 0, 0, 0, 0, 0, 0, 0, 0, 0, 0, 0, 0, 0, 0, 0, 0, 0, 0, 0, 0, 0, 0, 0, 0, 0, 0, 0, 0, 0, 0, 0, 0, 0, 0, 0, 0, 0, 0, 0, 0, 0, 0, 0, 0, 0, 0, 0, 0, 0, 0, 0, 0, 0, 0, 0, 0, 0, 0, 0, 26, 0, 0, 0, 0, 0, 0, 0])] rfl) gw_X8_needWord
set_option maxRecDepth 100000 in
theorem gX8_readOdds_X8_needWord : GoodIn wsX8_readOdds (wsV RX8 75 RX8 yX8_needWord wsX8_needWord) := goodIn_app (goodIn_sub (sub_c (nq_m (n := 3) rfl) (sub_c (nq_m (n := 4) rfl) (sub_c (nq_m (n := 5) rfl) (sub_c (nq_m (n := 6) rfl) sub_n)))) (by decide +kernel)) ggX8_readOdds_X8_needWord
set_option maxRecDepth 100000 in
theorem ggX8_readOdds_X8_needNumber : GoodIn wsX8_readOdds wsX8_needNumber := goodIn_sub (sub_g [(81, []), (8, []), (1, [11]), (9, [0, 0]), (6, [5, 1, 0, 0, 0, 0, 63, 0, 0, 0, 0, 0, 0]), (72, [0, 0, 0, 0, 0, 26, 0, 0, 0, 0, 0, 0, 0])] rfl) gw_X8_needNumber
set_option maxRecDepth 100000 in
theorem gX8_readOdds_X8_needNumber : GoodIn wsX8_readOdds (wsV RX8 79 RX8 yX8_needNumber wsX8_needNumber) := goodIn_app (goodIn_sub (sub_c (nq_m (n := 78) rfl) (sub_c (nq_m (n := 79) rfl) (sub_c (nq_m (n := 80) rfl) (sub_c (nq_m (n := 6) rfl) sub_n)))) (by decide +kernel)) ggX8_readOdds_X8_needNumber
set_option maxRecDepth 100000 in
theorem ggX8_readOdds_X8_tellOnce : GoodIn wsX8_readOdds wsX8_tellOnce := goodIn_sub (sub_g [(92, [0]), (72, [0, 0]), (6, [68, 0, 0, 26, 0, 0, 0, 0, 0, 0, 0])] rfl) gw_X8_tellOnce
set_option maxRecDepth 100000 in
theorem gX8_readOdds_X8_tellOnce : GoodIn wsX8_readOdds (wsV RX8 66 RX8 yX8_tellOnce wsX8_tellOnce) := goodIn_app (goodIn_sub (sub_c (nq_m (n := 89) rfl) (sub_c (nq_m (n := 90) rfl) (sub_c (nq_m (n := 91) rfl) (sub_c (nq_m (n := 6) rfl) sub_n)))) (by decide +kernel)) ggX8_readOdds_X8_tellOnce
set_option maxRecDepth 100000 in
theorem ggX8_readOdds_X8_fail : GoodIn wsX8_readOdds wsX8_fail := goodIn_sub (sub_g [(75, [0, 0, 26, 0, 0, 0, 0, 0, 0, 0])] rfl) gw_X8_fail
set_option maxRecDepth 100000 in
theorem gX8_readOdds_X8_fail : GoodIn wsX8_readOdds (wsV RX8 94 RX8 yX8_fail wsX8_fail) := goodIn_app (goodIn_sub (sub_c (nq_m (n := 72) rfl) (sub_c (nq_m (n := 73) rfl) (sub_c (nq_m (n := 74) rfl) (sub_c (nq_m (n := 6) rfl) sub_n)))) (by decide +kernel)) ggX8_readOdds_X8_fail
set_option maxRecDepth 100000 in
theorem ggX8_readOdds_X8_needEnd : GoodIn wsX8_readOdds wsX8_needEnd := goodIn_sub (sub_g [(97, []), (8, [0, 0, 0]), (6, [5, 0, 0, 0, 0, 0, 0, 53, 0, 0, 0, 0, 0, 26, 0, 0, 0, 0, 0, 0, 0])] rfl) gw_X8_needEnd
set_option maxRecDepth 100000 in
theorem gX8_readOdds_X8_needEnd : GoodIn wsX8_readOdds (wsV RX8 83 RX8 yX8_needEnd wsX8_needEnd) := goodIn_app (goodIn_sub (sub_c (nq_m (n := 94) rfl) (sub_c (nq_m (n := 95) rfl) (sub_c (nq_m (n := 96) rfl) (sub_c (nq_m (n := 6) rfl) sub_n)))) (by decide +kernel)) ggX8_readOdds_X8_needEnd
set_option maxRecDepth 100000 in
theorem ggX8_readOdds_X3_tellShares : GoodIn wsX8_readOdds wsX3_tellShares := goodIn_sub (sub_g [(102, [0]), (86, [0, 0, 23, 0, 0, 0, 0, 0, 0])] rfl) gw_X3_tellShares
set_option maxRecDepth 100000 in
theorem gX8_readOdds_X3_tellShares : GoodIn wsX8_readOdds (wsV RX8 108 RX3 yX3_tellShares wsX3_tellShares) := goodIn_app (goodIn_sub (sub_c (nq_m (n := 98) rfl) (sub_c (nq_m (n := 99) rfl) (sub_c (nq_m (n := 100) rfl) (sub_c (nq_m (n := 101) rfl) sub_n)))) (by decide +kernel)) ggX8_readOdds_X3_tellShares
noncomputable def dX8_readOdds_0_l : List (Nat × Instr × Nat) := [(0, .aload_n 0, 1), (1, .ldc 59, 2), (3, .invokevirtual 75, 3), (6, .aload_n 0, 1), (7, .iconst 0, 1), (8, .iconst 3, 1), (9, .invokevirtual 79, 3), (12, .istore_n 1, 1), (13, .aload_n 0, 1), (14, .iconst 1, 1), (15, .iload_n 1, 1), (16, .ishl, 1), (17, .aload_n 0, 1), (18, .getfield 28, 3), (21, .invokevirtual 66, 3), (24, .aload_n 0, 1), (25, .iconst 0, 1), (26, .bipush 100, 2), (28, .invokevirtual 79, 3), (31, .istore_n 2, 1), (32, .aload_n 0, 1), (33, .iconst 0, 1), (34, .bipush 100, 2), (36, .invokevirtual 79, 3), (39, .istore_n 3, 1), (40, .aload_n 0, 1), (41, .iconst 0, 1), (42, .bipush 100, 2), (44, .invokevirtual 79, 3), (47, .istore 4, 2), (49, .iload_n 2, 1), (50, .iload_n 3, 1), (51, .iadd, 1), (52, .iload 4, 2), (54, .iadd, 1), (55, .bipush 100, 2), (57, .if_icmp .eq 12, 3), (60, .aload_n 0, 1), (61, .iconst 5, 1), (62, .aload_n 0, 1)]
set_option maxRecDepth 100000 in
theorem dX8_readOdds_0_g : dX8_readOdds_0_l.all (fun x => decide (decode cX8_readOdds x.1 = .ok x.2)) = true := by decide +kernel
noncomputable def dX8_readOdds_63_l : List (Nat × Instr × Nat) := [(63, .getfield 28, 3), (66, .invokevirtual 94, 3), (69, .aload_n 0, 1), (70, .invokevirtual 83, 3), (73, .aload_n 0, 1), (74, .getfield 37, 3), (77, .iload_n 1, 1), (78, .iload_n 2, 1), (79, .iload_n 3, 1), (80, .iload 4, 2), (82, .invokevirtual 108, 3), (85, .return_, 1)]
set_option maxRecDepth 100000 in
theorem dX8_readOdds_63_g : dX8_readOdds_63_l.all (fun x => decide (decode cX8_readOdds x.1 = .ok x.2)) = true := by decide +kernel
set_option maxRecDepth 100000 in
theorem ggX8_readWeights_X8_needWord : GoodIn wsX8_readWeights wsX8_needWord := goodIn_sub (sub_g [(6, [0, 0, 0, 0]), (5, [5, 0, 0, 0, 0, 0, 0, 0, 0, 0, 0, 0, 0, 0, 0, 0, 0, 0, 0, 0, 0, 0, 0, 0, 0, 0, 0, 0, 0, 0, 0, 0, 0, 0, 0, 0, 0, 0, 0, 0, 0, 0, 0, 0, 0, 0, 0, 0, 0, 0, 0, 0, 0, 0, 0, 0, 0, 0, 0, 0, 0, 0, 0, 0, 0, 0, 22, 0, 0, 0, 0, 0, 0, 0])] rfl) gw_X8_needWord
set_option maxRecDepth 100000 in
theorem gX8_readWeights_X8_needWord : GoodIn wsX8_readWeights (wsV RX8 75 RX8 yX8_needWord wsX8_needWord) := goodIn_app (goodIn_sub (sub_c (nq_m (n := 2) rfl) (sub_c (nq_m (n := 3) rfl) (sub_c (nq_m (n := 4) rfl) (sub_c (nq_m (n := 5) rfl) sub_n)))) (by decide +kernel)) ggX8_readWeights_X8_needWord
set_option maxRecDepth 100000 in
theorem ggX8_readWeights_X8_needNumber : GoodIn wsX8_readWeights wsX8_needNumber := goodIn_sub (sub_g [(80, []), (7, [73]), (12, []), (8, [0, 0]), (5, [5, 1, 0, 0, 0, 0, 64, 0, 0, 0, 0, 0, 0]), (71, [0, 0, 0, 0, 0, 22, 0, 0, 0, 0, 0, 0, 0])] rfl) gw_X8_needNumber
set_option maxRecDepth 100000 in
theorem gX8_readWeights_X8_needNumber : GoodIn wsX8_readWeights (wsV RX8 79 RX8 yX8_needNumber wsX8_needNumber) := goodIn_app (goodIn_sub (sub_c (nq_m (n := 77) rfl) (sub_c (nq_m (n := 78) rfl) (sub_c (nq_m (n := 79) rfl) (sub_c (nq_m (n := 5) rfl) sub_n)))) (by decide +kernel)) ggX8_readWeights_X8_needNumber
set_option maxRecDepth 100000 in
theorem ggX8_readWeights_X8_needEnd : GoodIn wsX8_readWeights wsX8_needEnd := goodIn_sub (sub_g [(92, []), (7, [0, 0, 0]), (5, [5, 0, 0, 0, 0, 0, 0, 53, 0, 0, 0, 0, 0, 22, 0, 0, 0, 0, 0, 0, 0])] rfl) gw_X8_needEnd
set_option maxRecDepth 100000 in
theorem gX8_readWeights_X8_needEnd : GoodIn wsX8_readWeights (wsV RX8 83 RX8 yX8_needEnd wsX8_needEnd) := goodIn_app (goodIn_sub (sub_c (nq_m (n := 89) rfl) (sub_c (nq_m (n := 90) rfl) (sub_c (nq_m (n := 91) rfl) (sub_c (nq_m (n := 5) rfl) sub_n)))) (by decide +kernel)) ggX8_readWeights_X8_needEnd
set_option maxRecDepth 100000 in
theorem ggX8_readWeights_X3_tellWeights : GoodIn wsX8_readWeights wsX3_tellWeights := goodIn_sub (sub_g [(97, [0, 8, 0, 0, 0, 0, 0, 0])] rfl) gw_X3_tellWeights
set_option maxRecDepth 100000 in
theorem gX8_readWeights_X3_tellWeights : GoodIn wsX8_readWeights (wsV RX8 112 RX3 yX3_tellWeights wsX3_tellWeights) := goodIn_app (goodIn_sub (sub_c (nq_m (n := 93) rfl) (sub_c (nq_m (n := 94) rfl) (sub_c (nq_m (n := 95) rfl) (sub_c (nq_m (n := 96) rfl) sub_n)))) (by decide +kernel)) ggX8_readWeights_X3_tellWeights
noncomputable def dX8_readWeights_0_l : List (Nat × Instr × Nat) := [(0, .aload_n 0, 1), (1, .ldc 64, 2), (3, .invokevirtual 75, 3), (6, .aload_n 0, 1), (7, .iconst 0, 1), (8, .bipush 9, 2), (10, .invokevirtual 79, 3), (13, .istore_n 1, 1), (14, .aload_n 0, 1), (15, .iconst 0, 1), (16, .bipush 9, 2), (18, .invokevirtual 79, 3), (21, .istore_n 2, 1), (22, .aload_n 0, 1), (23, .iconst 0, 1), (24, .bipush 9, 2), (26, .invokevirtual 79, 3), (29, .istore_n 3, 1), (30, .aload_n 0, 1), (31, .invokevirtual 83, 3), (34, .aload_n 0, 1), (35, .getfield 37, 3), (38, .iload_n 1, 1), (39, .iload_n 2, 1), (40, .iload_n 3, 1), (41, .invokevirtual 112, 3), (44, .return_, 1)]
set_option maxRecDepth 100000 in
theorem dX8_readWeights_0_g : dX8_readWeights_0_l.all (fun x => decide (decode cX8_readWeights x.1 = .ok x.2)) = true := by decide +kernel
set_option maxRecDepth 100000 in
theorem ggX8_tellOnce_X8_fail : GoodIn wsX8_tellOnce wsX8_fail := goodIn_sub (sub_g [(6, [0, 0, 0, 0, 0, 0, 0, 0, 0, 0])] rfl) gw_X8_fail
set_option maxRecDepth 100000 in
theorem gX8_tellOnce_X8_fail : GoodIn wsX8_tellOnce (wsV RX8 94 RX8 yX8_fail wsX8_fail) := goodIn_app (goodIn_sub (sub_c (nq_m (n := 2) rfl) (sub_c (nq_m (n := 3) rfl) (sub_c (nq_m (n := 4) rfl) (sub_c (nq_m (n := 5) rfl) sub_n)))) (by decide +kernel)) ggX8_tellOnce_X8_fail
noncomputable def dX8_tellOnce_0_l : List (Nat × Instr × Nat) := [(0, .aload_n 0, 1), (1, .getfield 31, 3), (4, .iload_n 1, 1), (5, .iand, 1), (6, .ifCond .eq 9, 3), (9, .aload_n 0, 1), (10, .iconst 3, 1), (11, .iload_n 2, 1), (12, .invokevirtual 94, 3), (15, .aload_n 0, 1), (16, .dup, 1), (17, .getfield 31, 3), (20, .iload_n 1, 1), (21, .ior, 1), (22, .putfield 31, 3), (25, .return_, 1)]
set_option maxRecDepth 100000 in
theorem dX8_tellOnce_0_g : dX8_tellOnce_0_l.all (fun x => decide (decode cX8_tellOnce x.1 = .ok x.2)) = true := by decide +kernel
noncomputable def dX8_fail_0_l : List (Nat × Instr × Nat) := [(0, .aload_n 0, 1), (1, .getfield 22, 3), (4, .ifCond .eq 4, 3), (7, .return_, 1), (8, .aload_n 0, 1), (9, .iload_n 1, 1), (10, .putfield 22, 3), (13, .aload_n 0, 1), (14, .iload_n 2, 1), (15, .putfield 19, 3), (18, .return_, 1)]
set_option maxRecDepth 100000 in
theorem dX8_fail_0_g : dX8_fail_0_l.all (fun x => decide (decode cX8_fail x.1 = .ok x.2)) = true := by decide +kernel
set_option maxRecDepth 100000 in
theorem gw_X8_byteAt : wsX8_byteAt.all goodWord = true := by decide +kernel
set_option maxRecDepth 100000 in
theorem ggX8_skipBlanks_X8_byteAt : GoodIn wsX8_skipBlanks wsX8_byteAt := goodIn_sub (sub_g [(7, []), (2, [5, 0, 0, 0, 0, 0, 0, 0, 0])] rfl) gw_X8_byteAt
set_option maxRecDepth 100000 in
theorem gX8_skipBlanks_X8_byteAt : GoodIn wsX8_skipBlanks (wsV RX8 115 RX8 yX8_byteAt wsX8_byteAt) := goodIn_app (goodIn_sub (sub_c (nq_m (n := 3) rfl) (sub_c (nq_m (n := 4) rfl) (sub_c (nq_m (n := 5) rfl) (sub_c (nq_m (n := 6) rfl) sub_n)))) (by decide +kernel)) ggX8_skipBlanks_X8_byteAt
noncomputable def dX8_skipBlanks_0_l : List (Nat × Instr × Nat) := [(0, .aload_n 0, 1), (1, .getfield 25, 3), (4, .aload_n 0, 1), (5, .getfield 15, 3), (8, .if_icmp .ge 29, 3), (11, .aload_n 0, 1), (12, .aload_n 0, 1), (13, .getfield 25, 3), (16, .invokevirtual 115, 3), (19, .bipush 32, 2), (21, .if_icmp .ne 16, 3), (24, .aload_n 0, 1), (25, .dup, 1), (26, .getfield 25, 3), (29, .iconst 1, 1), (30, .iadd, 1), (31, .putfield 25, 3), (34, .goto (-34), 3), (37, .return_, 1)]
set_option maxRecDepth 100000 in
theorem dX8_skipBlanks_0_g : dX8_skipBlanks_0_l.all (fun x => decide (decode cX8_skipBlanks x.1 = .ok x.2)) = true := by decide +kernel
noncomputable def dX8_byteAt_0_l : List (Nat × Instr × Nat) := [(0, .iload_n 1, 1), (1, .ifCond .lt 31, 3), (4, .iload_n 1, 1), (5, .aload_n 0, 1), (6, .getfield 15, 3), (9, .if_icmp .ge 23, 3), (12, .iload_n 1, 1), (13, .sipush 240, 3), (16, .if_icmp .ge 16, 3), (19, .aload_n 0, 1), (20, .getfield 9, 3), (23, .iload_n 1, 1), (24, .baload, 1), (25, .sipush 255, 3), (28, .iand, 1), (29, .goto 4, 3), (32, .iconst (-1), 1), (33, .ireturn, 1)]
set_option maxRecDepth 100000 in
theorem dX8_byteAt_0_g : dX8_byteAt_0_l.all (fun x => decide (decode cX8_byteAt x.1 = .ok x.2)) = true := by decide +kernel
set_option maxRecDepth 100000 in
theorem ggX8_isFigure_X8_byteAt : GoodIn wsX8_isFigure wsX8_byteAt := goodIn_sub (sub_g [(5, [0, 0, 3, 0, 0, 0, 0, 0, 0, 0])] rfl) gw_X8_byteAt
set_option maxRecDepth 100000 in
theorem gX8_isFigure_X8_byteAt : GoodIn wsX8_isFigure (wsV RX8 115 RX8 yX8_byteAt wsX8_byteAt) := goodIn_app (goodIn_sub (sub_c (nq_m (n := 1) rfl) (sub_c (nq_m (n := 2) rfl) (sub_c (nq_m (n := 3) rfl) (sub_c (nq_m (n := 4) rfl) sub_n)))) (by decide +kernel)) ggX8_isFigure_X8_byteAt
set_option maxRecDepth 100000 in
theorem ggX8_isFigure_X10_within : GoodIn wsX8_isFigure wsX10_within := goodIn_sub (sub_c (nq_m (n := 10) rfl) sub_n) gw_X10_within
set_option maxRecDepth 100000 in
theorem gX8_isFigure_X10_within_n119 : GoodIn wsX8_isFigure (wsX10_within) := ggX8_isFigure_X10_within
noncomputable def dX8_isFigure_0_l : List (Nat × Instr × Nat) := [(0, .aload_n 0, 1), (1, .iload_n 1, 1), (2, .invokevirtual 115, 3), (5, .bipush 48, 2), (7, .bipush 57, 2), (9, .invokestatic 119, 3), (12, .ireturn, 1)]
set_option maxRecDepth 100000 in
theorem dX8_isFigure_0_g : dX8_isFigure_0_l.all (fun x => decide (decode cX8_isFigure x.1 = .ok x.2)) = true := by decide +kernel
set_option maxRecDepth 100000 in
theorem gw_J0_length_8abf5 : wsJ0_length_8abf5.all goodWord = true := by decide +kernel
set_option maxRecDepth 100000 in
theorem ggX8_isHere_J0_length_8abf5 : GoodIn wsX8_isHere wsJ0_length_8abf5 := goodIn_sub (sub_g [(6, [0, 0, 0, 0]), (5, [5, 0, 0])] rfl) gw_J0_length_8abf5
set_option maxRecDepth 100000 in
theorem gX8_isHere_J0_length_8abf5 : GoodIn wsX8_isHere (wsV RX8 123 RJ0 yJ0_length_8abf5 wsJ0_length_8abf5) := goodIn_app (goodIn_sub (sub_c (nq_m (n := 2) rfl) (sub_c (nq_m (n := 3) rfl) (sub_c (nq_m (n := 4) rfl) (sub_c (nq_m (n := 5) rfl) sub_n)))) (by decide +kernel)) ggX8_isHere_J0_length_8abf5
set_option maxRecDepth 100000 in
theorem ggX8_isHere_X8_byteAt : GoodIn wsX8_isHere wsX8_byteAt := goodIn_sub (sub_g [(18, [0, 0, 37, 0, 0, 0, 0, 0, 0, 0])] rfl) gw_X8_byteAt
set_option maxRecDepth 100000 in
theorem gX8_isHere_X8_byteAt : GoodIn wsX8_isHere (wsV RX8 115 RX8 yX8_byteAt wsX8_byteAt) := goodIn_app (goodIn_sub (sub_c (nq_m (n := 14) rfl) (sub_c (nq_m (n := 15) rfl) (sub_c (nq_m (n := 16) rfl) (sub_c (nq_m (n := 17) rfl) sub_n)))) (by decide +kernel)) ggX8_isHere_X8_byteAt
set_option maxRecDepth 100000 in
theorem gw_J0_charAt_5068e : wsJ0_charAt_5068e.all goodWord = true := by decide +kernel
set_option maxRecDepth 100000 in
theorem ggX8_isHere_J0_charAt_5068e : GoodIn wsX8_isHere wsJ0_charAt_5068e := goodIn_sub (sub_g [(24, []), (7, [17, 0, 0]), (5, [22]), (12, [0, 15, 0, 0, 0, 0, 0, 0, 0, 0, 0, 0, 0, 0, 0, 0, 0, 0, 0, 0, 0, 0, 0, 0, 0, 0, 0, 0, 0, 0])] rfl) gw_J0_charAt_5068e
set_option maxRecDepth 100000 in
theorem gX8_isHere_J0_charAt_5068e : GoodIn wsX8_isHere (wsV RX8 128 RJ0 yJ0_charAt_5068e wsJ0_charAt_5068e) := goodIn_app (goodIn_sub (sub_c (nq_m (n := 21) rfl) (sub_c (nq_m (n := 22) rfl) (sub_c (nq_m (n := 23) rfl) (sub_c (nq_m (n := 5) rfl) sub_n)))) (by decide +kernel)) ggX8_isHere_J0_charAt_5068e
noncomputable def dX8_isHere_0_l : List (Nat × Instr × Nat) := [(0, .iconst 0, 1), (1, .istore_n 2, 1), (2, .iload_n 2, 1), (3, .aload_n 1, 1), (4, .invokevirtual 123, 3), (7, .if_icmp .ge 29, 3), (10, .aload_n 0, 1), (11, .aload_n 0, 1), (12, .getfield 25, 3), (15, .iload_n 2, 1), (16, .iadd, 1), (17, .invokevirtual 115, 3), (20, .aload_n 1, 1), (21, .iload_n 2, 1), (22, .invokevirtual 128, 3), (25, .if_icmp .eq 5, 3), (28, .iconst 0, 1), (29, .ireturn, 1), (30, .iinc 2 1, 3), (33, .goto (-31), 3), (36, .aload_n 0, 1), (37, .aload_n 0, 1), (38, .getfield 25, 3), (41, .aload_n 1, 1), (42, .invokevirtual 123, 3), (45, .iadd, 1), (46, .invokevirtual 115, 3), (49, .istore_n 2, 1), (50, .iload_n 2, 1), (51, .bipush 97, 2), (53, .if_icmp .lt 9, 3), (56, .iload_n 2, 1), (57, .bipush 122, 2), (59, .if_icmp .le 7, 3), (62, .iconst 1, 1), (63, .goto 4, 3), (66, .iconst 0, 1), (67, .ireturn, 1)]
set_option maxRecDepth 100000 in
theorem dX8_isHere_0_g : dX8_isHere_0_l.all (fun x => decide (decode cX8_isHere x.1 = .ok x.2)) = true := by decide +kernel
set_option maxRecDepth 100000 in
theorem ggX8_needWord_X8_skipBlanks : GoodIn wsX8_needWord wsX8_skipBlanks := goodIn_sub (sub_g [(6, []), (1, [5, 0, 0, 0]), (5, [5, 0, 59, 0, 0, 0, 0, 0, 0, 0])] rfl) gw_X8_skipBlanks
set_option maxRecDepth 100000 in
theorem gX8_needWord_X8_skipBlanks : GoodIn wsX8_needWord (wsV RX8 44 RX8 yX8_skipBlanks wsX8_skipBlanks) := goodIn_app (goodIn_sub (sub_c (nq_m (n := 2) rfl) (sub_c (nq_m (n := 3) rfl) (sub_c (nq_m (n := 4) rfl) (sub_c (nq_m (n := 5) rfl) sub_n)))) (by decide +kernel)) ggX8_needWord_X8_skipBlanks
set_option maxRecDepth 100000 in
theorem ggX8_needWord_X8_isHere : GoodIn wsX8_needWord wsX8_isHere := goodIn_sub (sub_g [(16, []), (1, [15, 0, 0, 0, 0, 0, 0, 0, 0, 0, 0, 0]), (8, [0, 0]), (5, [5]), (7, [4, 16, 0, 0, 0, 0, 0, 0, 0, 0, 0, 0, 0, 0, 0, 0, 0, 0, 0, 0, 0, 0, 0, 0, 0, 0, 0, 0, 0, 0, 0, 0, 0, 0, 0, 0, 0, 0, 6, 0, 0, 0, 0, 0, 0, 0])] rfl) gw_X8_isHere
set_option maxRecDepth 100000 in
theorem gX8_needWord_X8_isHere : GoodIn wsX8_needWord (wsV RX8 52 RX8 yX8_isHere wsX8_isHere) := goodIn_app (goodIn_sub (sub_c (nq_m (n := 13) rfl) (sub_c (nq_m (n := 14) rfl) (sub_c (nq_m (n := 15) rfl) (sub_c (nq_m (n := 5) rfl) sub_n)))) (by decide +kernel)) ggX8_needWord_X8_isHere
set_option maxRecDepth 100000 in
theorem ggX8_needWord_J0_length_8abf5 : GoodIn wsX8_needWord wsJ0_length_8abf5 := goodIn_sub (sub_g [(21, [0, 0, 0, 0]), (20, [5, 0, 0])] rfl) gw_J0_length_8abf5
set_option maxRecDepth 100000 in
theorem gX8_needWord_J0_length_8abf5 : GoodIn wsX8_needWord (wsV RX8 123 RJ0 yJ0_length_8abf5 wsJ0_length_8abf5) := goodIn_app (goodIn_sub (sub_c (nq_m (n := 17) rfl) (sub_c (nq_m (n := 18) rfl) (sub_c (nq_m (n := 19) rfl) (sub_c (nq_m (n := 20) rfl) sub_n)))) (by decide +kernel)) ggX8_needWord_J0_length_8abf5
set_option maxRecDepth 100000 in
theorem ggX8_needWord_X8_fail : GoodIn wsX8_needWord wsX8_fail := goodIn_sub (sub_g [(69, [0, 0, 0, 0, 0, 0, 0, 0, 0, 0])] rfl) gw_X8_fail
set_option maxRecDepth 100000 in
theorem gX8_needWord_X8_fail : GoodIn wsX8_needWord (wsV RX8 94 RX8 yX8_fail wsX8_fail) := goodIn_app (goodIn_sub (sub_c (nq_m (n := 66) rfl) (sub_c (nq_m (n := 67) rfl) (sub_c (nq_m (n := 68) rfl) (sub_c (nq_m (n := 5) rfl) sub_n)))) (by decide +kernel)) ggX8_needWord_X8_fail
noncomputable def dX8_needWord_0_l : List (Nat × Instr × Nat) := [(0, .aload_n 0, 1), (1, .invokevirtual 44, 3), (4, .aload_n 0, 1), (5, .aload_n 1, 1), (6, .invokevirtual 52, 3), (9, .ifCond .eq 19, 3), (12, .aload_n 0, 1), (13, .dup, 1), (14, .getfield 25, 3), (17, .aload_n 1, 1), (18, .invokevirtual 123, 3), (21, .iadd, 1), (22, .putfield 25, 3), (25, .goto 12, 3), (28, .aload_n 0, 1), (29, .iconst 1, 1), (30, .aload_n 0, 1), (31, .getfield 25, 3), (34, .invokevirtual 94, 3), (37, .return_, 1)]
set_option maxRecDepth 100000 in
theorem dX8_needWord_0_g : dX8_needWord_0_l.all (fun x => decide (decode cX8_needWord x.1 = .ok x.2)) = true := by decide +kernel
set_option maxRecDepth 100000 in
theorem ggX8_needEnd_X8_skipBlanks : GoodIn wsX8_needEnd wsX8_skipBlanks := goodIn_sub (sub_g [(6, []), (1, [5, 0, 0, 0]), (5, [5, 0, 6, 0, 0, 0, 0, 0, 0, 0])] rfl) gw_X8_skipBlanks
set_option maxRecDepth 100000 in
theorem gX8_needEnd_X8_skipBlanks : GoodIn wsX8_needEnd (wsV RX8 44 RX8 yX8_skipBlanks wsX8_skipBlanks) := goodIn_app (goodIn_sub (sub_c (nq_m (n := 2) rfl) (sub_c (nq_m (n := 3) rfl) (sub_c (nq_m (n := 4) rfl) (sub_c (nq_m (n := 5) rfl) sub_n)))) (by decide +kernel)) ggX8_needEnd_X8_skipBlanks
set_option maxRecDepth 100000 in
theorem ggX8_needEnd_X8_byteAt : GoodIn wsX8_needEnd wsX8_byteAt := goodIn_sub (sub_g [(11, []), (7, [4, 6, 0, 0, 0, 0, 0, 0, 0])] rfl) gw_X8_byteAt
set_option maxRecDepth 100000 in
theorem gX8_needEnd_X8_byteAt : GoodIn wsX8_needEnd (wsV RX8 115 RX8 yX8_byteAt wsX8_byteAt) := goodIn_app (goodIn_sub (sub_c (nq_m (n := 8) rfl) (sub_c (nq_m (n := 9) rfl) (sub_c (nq_m (n := 10) rfl) (sub_c (nq_m (n := 5) rfl) sub_n)))) (by decide +kernel)) ggX8_needEnd_X8_byteAt
set_option maxRecDepth 100000 in
theorem ggX8_needEnd_X8_fail : GoodIn wsX8_needEnd wsX8_fail := goodIn_sub (sub_g [(16, [0, 0, 0, 0, 0, 0, 0, 0, 0, 0])] rfl) gw_X8_fail
set_option maxRecDepth 100000 in
theorem gX8_needEnd_X8_fail : GoodIn wsX8_needEnd (wsV RX8 94 RX8 yX8_fail wsX8_fail) := goodIn_app (goodIn_sub (sub_c (nq_m (n := 13) rfl) (sub_c (nq_m (n := 14) rfl) (sub_c (nq_m (n := 15) rfl) (sub_c (nq_m (n := 5) rfl) sub_n)))) (by decide +kernel)) ggX8_needEnd_X8_fail
noncomputable def dX8_needEnd_0_l : List (Nat × Instr × Nat) := [(0, .aload_n 0, 1), (1, .invokevirtual 44, 3), (4, .aload_n 0, 1), (5, .aload_n 0, 1), (6, .getfield 25, 3), (9, .invokevirtual 115, 3), (12, .bipush 59, 2), (14, .if_icmp .ne 16, 3), (17, .aload_n 0, 1), (18, .dup, 1), (19, .getfield 25, 3), (22, .iconst 1, 1), (23, .iadd, 1), (24, .putfield 25, 3), (27, .goto 12, 3), (30, .aload_n 0, 1), (31, .iconst 1, 1), (32, .aload_n 0, 1), (33, .getfield 25, 3), (36, .invokevirtual 94, 3), (39, .return_, 1)]
set_option maxRecDepth 100000 in
theorem dX8_needEnd_0_g : dX8_needEnd_0_l.all (fun x => decide (decode cX8_needEnd x.1 = .ok x.2)) = true := by decide +kernel
set_option maxRecDepth 100000 in
theorem ggX8_needNumber_X8_skipBlanks : GoodIn wsX8_needNumber wsX8_skipBlanks := goodIn_sub (sub_g [(8, []), (1, [1, 5, 0, 0]), (7, [4, 0, 13, 0, 0, 0, 0, 0, 0, 0])] rfl) gw_X8_skipBlanks
set_option maxRecDepth 100000 in
theorem gX8_needNumber_X8_skipBlanks : GoodIn wsX8_needNumber (wsV RX8 44 RX8 yX8_skipBlanks wsX8_skipBlanks) := goodIn_app (goodIn_sub (sub_c (nq_m (n := 4) rfl) (sub_c (nq_m (n := 5) rfl) (sub_c (nq_m (n := 6) rfl) (sub_c (nq_m (n := 7) rfl) sub_n)))) (by decide +kernel)) ggX8_needNumber_X8_skipBlanks
set_option maxRecDepth 100000 in
theorem gw_X8_isFigure : wsX8_isFigure.all goodWord = true := by decide +kernel
set_option maxRecDepth 100000 in
theorem ggX8_needNumber_X8_isFigure : GoodIn wsX8_needNumber wsX8_isFigure := goodIn_sub (sub_g [(17, []), (9, [0, 0]), (7, [4]), (3, [9, 4, 0, 0, 6, 0, 0, 0, 0, 0, 0, 0])] rfl) gw_X8_isFigure
set_option maxRecDepth 100000 in
theorem gX8_needNumber_X8_isFigure : GoodIn wsX8_needNumber (wsV RX8 132 RX8 yX8_isFigure wsX8_isFigure) := goodIn_app (goodIn_sub (sub_c (nq_m (n := 14) rfl) (sub_c (nq_m (n := 15) rfl) (sub_c (nq_m (n := 16) rfl) (sub_c (nq_m (n := 7) rfl) sub_n)))) (by decide +kernel)) ggX8_needNumber_X8_isFigure
set_option maxRecDepth 100000 in
theorem ggX8_needNumber_X8_byteAt : GoodIn wsX8_needNumber wsX8_byteAt := goodIn_sub (sub_g [(12, []), (3, [9, 13, 0, 0, 0, 0, 0, 0, 0])] rfl) gw_X8_byteAt
set_option maxRecDepth 100000 in
theorem gX8_needNumber_X8_byteAt : GoodIn wsX8_needNumber (wsV RX8 115 RX8 yX8_byteAt wsX8_byteAt) := goodIn_app (goodIn_sub (sub_c (nq_m (n := 9) rfl) (sub_c (nq_m (n := 10) rfl) (sub_c (nq_m (n := 11) rfl) (sub_c (nq_m (n := 7) rfl) sub_n)))) (by decide +kernel)) ggX8_needNumber_X8_byteAt
set_option maxRecDepth 100000 in
theorem ggX8_needNumber_X8_fail : GoodIn wsX8_needNumber wsX8_fail := goodIn_sub (sub_g [(24, [0, 0, 0, 0, 0, 0, 0, 0, 0, 0])] rfl) gw_X8_fail
set_option maxRecDepth 100000 in
theorem gX8_needNumber_X8_fail : GoodIn wsX8_needNumber (wsV RX8 94 RX8 yX8_fail wsX8_fail) := goodIn_app (goodIn_sub (sub_c (nq_m (n := 21) rfl) (sub_c (nq_m (n := 22) rfl) (sub_c (nq_m (n := 23) rfl) (sub_c (nq_m (n := 7) rfl) sub_n)))) (by decide +kernel)) ggX8_needNumber_X8_fail
set_option maxRecDepth 100000 in
theorem ggX8_needNumber_X10_within : GoodIn wsX8_needNumber wsX10_within := goodIn_sub (sub_c (nq_m (n := 20) rfl) sub_n) gw_X10_within
set_option maxRecDepth 100000 in
theorem gX8_needNumber_X10_within_n119 : GoodIn wsX8_needNumber (wsX10_within) := ggX8_needNumber_X10_within
noncomputable def dX8_needNumber_0_l : List (Nat × Instr × Nat) := [(0, .aload_n 0, 1), (1, .invokevirtual 44, 3), (4, .aload_n 0, 1), (5, .aload_n 0, 1), (6, .getfield 25, 3), (9, .putfield 28, 3), (12, .iconst 0, 1), (13, .istore_n 3, 1), (14, .aload_n 0, 1), (15, .getfield 25, 3), (18, .aload_n 0, 1), (19, .getfield 15, 3), (22, .if_icmp .ge 57, 3), (25, .aload_n 0, 1), (26, .aload_n 0, 1), (27, .getfield 25, 3), (30, .invokevirtual 132, 3), (33, .ifCond .eq 46, 3), (36, .aload_n 0, 1), (37, .getfield 25, 3), (40, .aload_n 0, 1), (41, .getfield 28, 3), (44, .isub, 1), (45, .iconst 3, 1), (46, .if_icmp .ge 20, 3), (49, .iload_n 3, 1), (50, .bipush 10, 2), (52, .imul, 1), (53, .aload_n 0, 1), (54, .aload_n 0, 1), (55, .getfield 25, 3), (58, .invokevirtual 115, 3), (61, .iadd, 1), (62, .bipush 48, 2), (64, .isub, 1), (65, .istore_n 3, 1), (66, .aload_n 0, 1), (67, .dup, 1), (68, .getfield 25, 3), (71, .iconst 1, 1)]
set_option maxRecDepth 100000 in
theorem dX8_needNumber_0_g : dX8_needNumber_0_l.all (fun x => decide (decode cX8_needNumber x.1 = .ok x.2)) = true := by decide +kernel
noncomputable def dX8_needNumber_72_l : List (Nat × Instr × Nat) := [(72, .iadd, 1), (73, .putfield 25, 3), (76, .goto (-62), 3), (79, .aload_n 0, 1), (80, .getfield 25, 3), (83, .aload_n 0, 1), (84, .getfield 28, 3), (87, .if_icmp .ne 15, 3), (90, .aload_n 0, 1), (91, .iconst 1, 1), (92, .aload_n 0, 1), (93, .getfield 28, 3), (96, .invokevirtual 94, 3), (99, .goto 34, 3), (102, .aload_n 0, 1), (103, .getfield 25, 3), (106, .aload_n 0, 1), (107, .getfield 28, 3), (110, .isub, 1), (111, .iconst 3, 1), (112, .if_icmp .gt 12, 3), (115, .iload_n 3, 1), (116, .iload_n 1, 1), (117, .iload_n 2, 1), (118, .invokestatic 119, 3), (121, .ifCond .ne 12, 3), (124, .aload_n 0, 1), (125, .iconst 2, 1), (126, .aload_n 0, 1), (127, .getfield 28, 3), (130, .invokevirtual 94, 3), (133, .iload_n 3, 1), (134, .ireturn, 1)]
set_option maxRecDepth 100000 in
theorem dX8_needNumber_72_g : dX8_needNumber_72_l.all (fun x => decide (decode cX8_needNumber x.1 = .ok x.2)) = true := by decide +kernel
noncomputable def dX9_init_0_l : List (Nat × Instr × Nat) := [(0, .aload_n 0, 1), (1, .invokespecial 3, 3), (4, .aload_n 0, 1), (5, .bipush 16, 2), (7, .newarray .int, 2), (9, .putfield 9, 3), (12, .aload_n 0, 1), (13, .bipush 16, 2), (15, .newarray .int, 2), (17, .putfield 15, 3), (20, .aload_n 0, 1), (21, .bipush 16, 2), (23, .newarray .int, 2), (25, .putfield 18, 3), (28, .aload_n 0, 1), (29, .bipush 68, 2), (31, .newarray .int, 2), (33, .putfield 21, 3), (36, .aload_n 0, 1), (37, .bipush 17, 2), (39, .newarray .int, 2), (41, .putfield 24, 3), (44, .aload_n 0, 1), (45, .bipush 17, 2), (47, .newarray .int, 2), (49, .putfield 27, 3), (52, .aload_n 0, 1), (53, .bipush 17, 2), (55, .newarray .int, 2), (57, .putfield 30, 3), (60, .aload_n 0, 1), (61, .bipush 7, 2), (63, .newarray .int, 2), (65, .putfield 33, 3), (68, .aload_n 0, 1), (69, .iconst 0, 1), (70, .putfield 36, 3), (73, .aload_n 0, 1), (74, .iconst 0, 1), (75, .putfield 40, 3)]
set_option maxRecDepth 100000 in
theorem dX9_init_0_g : dX9_init_0_l.all (fun x => decide (decode cX9_init x.1 = .ok x.2)) = true := by decide +kernel
noncomputable def dX9_init_78_l : List (Nat × Instr × Nat) := [(78, .aload_n 0, 1), (79, .iconst 0, 1), (80, .putfield 43, 3), (83, .aload_n 0, 1), (84, .iconst 0, 1), (85, .putfield 46, 3), (88, .return_, 1)]
set_option maxRecDepth 100000 in
theorem dX9_init_78_g : dX9_init_78_l.all (fun x => decide (decode cX9_init x.1 = .ok x.2)) = true := by decide +kernel
set_option maxRecDepth 100000 in
theorem ggX9_load_X3_walkOf : GoodIn wsX9_load wsX3_walkOf := goodIn_sub (sub_g [(15, [0, 0, 0, 0]), (14, [5, 0, 12, 0, 0, 0, 0, 0, 0])] rfl) gw_X3_walkOf
set_option maxRecDepth 100000 in
theorem gX9_load_X3_walkOf : GoodIn wsX9_load (wsV RX9 60 RX3 yX3_walkOf wsX3_walkOf) := goodIn_app (goodIn_sub (sub_c (nq_m (n := 11) rfl) (sub_c (nq_m (n := 12) rfl) (sub_c (nq_m (n := 13) rfl) (sub_c (nq_m (n := 14) rfl) sub_n)))) (by decide +kernel)) ggX9_load_X3_walkOf
noncomputable def dX9_load_0_l : List (Nat × Instr × Nat) := [(0, .aload_n 0, 1), (1, .iconst 0, 1), (2, .putfield 36, 3), (5, .aload_n 0, 1), (6, .aload_n 3, 1), (7, .getfield 49, 3), (10, .putfield 40, 3), (13, .iconst 0, 1), (14, .istore 4, 2), (16, .iload 4, 2), (18, .aload_n 2, 1), (19, .getfield 52, 3), (22, .if_icmp .ge 79, 3), (25, .iload_n 1, 1), (26, .iload 4, 2), (28, .ishr, 1), (29, .iconst 1, 1), (30, .iand, 1), (31, .iconst 1, 1), (32, .if_icmp .ne 63, 3), (35, .aload_n 0, 1), (36, .getfield 9, 3), (39, .iload 4, 2), (41, .iconst 2, 1), (42, .aload_n 3, 1), (43, .aload_n 2, 1), (44, .getfield 57, 3), (47, .iload 4, 2), (49, .iaload, 1), (50, .invokevirtual 60, 3), (53, .imul, 1), (54, .aload_n 3, 1), (55, .getfield 64, 3), (58, .iadd, 1), (59, .iastore, 1), (60, .aload_n 0, 1), (61, .getfield 15, 3), (64, .iload 4, 2), (66, .aload_n 2, 1), (67, .getfield 66, 3)]
set_option maxRecDepth 100000 in
theorem dX9_load_0_g : dX9_load_0_l.all (fun x => decide (decode cX9_load x.1 = .ok x.2)) = true := by decide +kernel
noncomputable def dX9_load_70_l : List (Nat × Instr × Nat) := [(70, .iload 4, 2), (72, .iaload, 1), (73, .iastore, 1), (74, .aload_n 0, 1), (75, .getfield 18, 3), (78, .aload_n 0, 1), (79, .getfield 36, 3), (82, .iload 4, 2), (84, .iastore, 1), (85, .aload_n 0, 1), (86, .dup, 1), (87, .getfield 36, 3), (90, .iconst 1, 1), (91, .iadd, 1), (92, .putfield 36, 3), (95, .iinc 4 1, 3), (98, .goto (-82), 3), (101, .return_, 1)]
set_option maxRecDepth 100000 in
theorem dX9_load_70_g : dX9_load_70_l.all (fun x => decide (decode cX9_load x.1 = .ok x.2)) = true := by decide +kernel
noncomputable def dX9_sumOfWaits_0_l : List (Nat × Instr × Nat) := [(0, .aload_n 0, 1), (1, .getfield 24, 3), (4, .aload_n 0, 1), (5, .getfield 36, 3), (8, .iaload, 1), (9, .ireturn, 1)]
set_option maxRecDepth 100000 in
theorem dX9_sumOfWaits_0_g : dX9_sumOfWaits_0_l.all (fun x => decide (decode cX9_sumOfWaits x.1 = .ok x.2)) = true := by decide +kernel
noncomputable def dX9_greatestWait_0_l : List (Nat × Instr × Nat) := [(0, .aload_n 0, 1), (1, .getfield 27, 3), (4, .aload_n 0, 1), (5, .getfield 36, 3), (8, .iaload, 1), (9, .ireturn, 1)]
set_option maxRecDepth 100000 in
theorem dX9_greatestWait_0_g : dX9_greatestWait_0_l.all (fun x => decide (decode cX9_greatestWait x.1 = .ok x.2)) = true := by decide +kernel
noncomputable def dX9_sumOfTips_0_l : List (Nat × Instr × Nat) := [(0, .aload_n 0, 1), (1, .getfield 30, 3), (4, .aload_n 0, 1), (5, .getfield 36, 3), (8, .iaload, 1), (9, .ireturn, 1)]
set_option maxRecDepth 100000 in
theorem dX9_sumOfTips_0_g : dX9_sumOfTips_0_l.all (fun x => decide (decode cX9_sumOfTips x.1 = .ok x.2)) = true := by decide +kernel
noncomputable def dX9_bestMember_0_l : List (Nat × Instr × Nat) := [(0, .iload_n 1, 1), (1, .ifCond .lt 26, 3), (4, .iload_n 1, 1), (5, .aload_n 0, 1), (6, .getfield 36, 3), (9, .if_icmp .ge 18, 3), (12, .iload_n 1, 1), (13, .bipush 7, 2), (15, .if_icmp .ge 12, 3), (18, .aload_n 0, 1), (19, .getfield 33, 3), (22, .iload_n 1, 1), (23, .iaload, 1), (24, .goto 4, 3), (27, .iconst (-1), 1), (28, .ireturn, 1)]
set_option maxRecDepth 100000 in
theorem dX9_bestMember_0_g : dX9_bestMember_0_l.all (fun x => decide (decode cX9_bestMember x.1 = .ok x.2)) = true := by decide +kernel
set_option maxRecDepth 100000 in
theorem gw_X9_serve : wsX9_serve.all goodWord = true := by decide +kernel
set_option maxRecDepth 100000 in
theorem ggX9_serveFrom_X9_serve : GoodIn wsX9_serveFrom wsX9_serve := goodIn_sub (sub_g [(6, [0, 0, 0, 0, 0, 0, 0, 0, 0, 0, 0, 0, 0, 0, 0, 0, 0, 0, 0, 0, 0, 0, 0, 0, 0, 0, 0])] rfl) gw_X9_serve
set_option maxRecDepth 100000 in
theorem gX9_serveFrom_X9_serve : GoodIn wsX9_serveFrom (wsV RX9 67 RX9 yX9_serve wsX9_serve) := goodIn_app (goodIn_sub (sub_c (nq_m (n := 2) rfl) (sub_c (nq_m (n := 3) rfl) (sub_c (nq_m (n := 4) rfl) (sub_c (nq_m (n := 5) rfl) sub_n)))) (by decide +kernel)) ggX9_serveFrom_X9_serve
noncomputable def dX9_serveFrom_0_l : List (Nat × Instr × Nat) := [(0, .iload_n 1, 1), (1, .ifCond .lt 13, 3), (4, .iload_n 2, 1), (5, .iconst 1, 1), (6, .if_icmp .lt 8, 3), (9, .iload_n 2, 1), (10, .iconst 4, 1), (11, .if_icmp .le 4, 3), (14, .return_, 1), (15, .iload_n 1, 1), (16, .istore_n 3, 1), (17, .iload_n 3, 1), (18, .aload_n 0, 1), (19, .getfield 36, 3), (22, .if_icmp .ge 15, 3), (25, .aload_n 0, 1), (26, .iload_n 3, 1), (27, .iload_n 2, 1), (28, .invokevirtual 67, 3), (31, .iinc 3 1, 3), (34, .goto (-17), 3), (37, .return_, 1)]
set_option maxRecDepth 100000 in
theorem dX9_serveFrom_0_g : dX9_serveFrom_0_l.all (fun x => decide (decode cX9_serveFrom x.1 = .ok x.2)) = true := by decide +kernel
set_option maxRecDepth 100000 in
theorem ggX9_serve_X10_within : GoodIn wsX9_serve wsX10_within := goodIn_sub (sub_c (nq_m (n := 15) rfl) sub_n) gw_X10_within
set_option maxRecDepth 100000 in
theorem gX9_serve_X10_within_n71 : GoodIn wsX9_serve (wsX10_within) := ggX9_serve_X10_within
noncomputable def dX9_serve_0_l : List (Nat × Instr × Nat) := [(0, .iload_n 1, 1), (1, .iconst 4, 1), (2, .imul, 1), (3, .istore_n 3, 1), (4, .iconst 0, 1), (5, .istore 4, 2), (7, .iconst 0, 1), (8, .istore 5, 2), (10, .iload 5, 2), (12, .iload_n 2, 1), (13, .if_icmp .ge 54, 3), (16, .aload_n 0, 1), (17, .getfield 21, 3), (20, .iload_n 3, 1), (21, .iload 5, 2), (23, .iadd, 1), (24, .iaload, 1), (25, .aload_n 0, 1), (26, .getfield 21, 3), (29, .iload_n 3, 1), (30, .iload 4, 2), (32, .iadd, 1), (33, .iaload, 1), (34, .if_icmp .ge 7, 3), (37, .iload 5, 2), (39, .istore 4, 2), (41, .aload_n 0, 1), (42, .getfield 21, 3), (45, .iload_n 3, 1), (46, .iconst 4, 1), (47, .iadd, 1), (48, .iload 5, 2), (50, .iadd, 1), (51, .aload_n 0, 1), (52, .getfield 21, 3), (55, .iload_n 3, 1), (56, .iload 5, 2), (58, .iadd, 1), (59, .iaload, 1), (60, .iastore, 1)]
set_option maxRecDepth 100000 in
theorem dX9_serve_0_g : dX9_serve_0_l.all (fun x => decide (decode cX9_serve x.1 = .ok x.2)) = true := by decide +kernel
noncomputable def dX9_serve_61_l : List (Nat × Instr × Nat) := [(61, .iinc 5 1, 3), (64, .goto (-54), 3), (67, .aload_n 0, 1), (68, .getfield 18, 3), (71, .iload_n 1, 1), (72, .iaload, 1), (73, .istore 5, 2), (75, .iload 5, 2), (77, .iconst 0, 1), (78, .bipush 15, 2), (80, .invokestatic 71, 3), (83, .ifCond .ne 4, 3), (86, .return_, 1), (87, .aload_n 0, 1), (88, .getfield 21, 3), (91, .iload_n 3, 1), (92, .iload 4, 2), (94, .iadd, 1), (95, .iaload, 1), (96, .aload_n 0, 1), (97, .getfield 9, 3), (100, .iload 5, 2), (102, .iaload, 1), (103, .iadd, 1), (104, .istore 6, 2), (106, .aload_n 0, 1), (107, .getfield 21, 3), (110, .iload_n 3, 1), (111, .iconst 4, 1), (112, .iadd, 1), (113, .iload 4, 2), (115, .iadd, 1), (116, .iload 6, 2), (118, .iastore, 1), (119, .aload_n 0, 1), (120, .getfield 24, 3), (123, .iload_n 1, 1), (124, .iconst 1, 1), (125, .iadd, 1), (126, .aload_n 0, 1)]
set_option maxRecDepth 100000 in
theorem dX9_serve_61_g : dX9_serve_61_l.all (fun x => decide (decode cX9_serve x.1 = .ok x.2)) = true := by decide +kernel
noncomputable def dX9_serve_127_l : List (Nat × Instr × Nat) := [(127, .getfield 24, 3), (130, .iload_n 1, 1), (131, .iaload, 1), (132, .iload 6, 2), (134, .iadd, 1), (135, .iastore, 1), (136, .aload_n 0, 1), (137, .getfield 27, 3), (140, .iload_n 1, 1), (141, .iconst 1, 1), (142, .iadd, 1), (143, .aload_n 0, 1), (144, .getfield 27, 3), (147, .iload_n 1, 1), (148, .iaload, 1), (149, .iload 6, 2), (151, .invokestatic 75, 3), (154, .iastore, 1), (155, .aload_n 0, 1), (156, .getfield 30, 3), (159, .iload_n 1, 1), (160, .iconst 1, 1), (161, .iadd, 1), (162, .aload_n 0, 1), (163, .getfield 30, 3), (166, .iload_n 1, 1), (167, .iaload, 1), (168, .iconst 0, 1), (169, .aload_n 0, 1), (170, .getfield 15, 3), (173, .iload 5, 2), (175, .iaload, 1), (176, .aload_n 0, 1), (177, .getfield 40, 3), (180, .iload 6, 2), (182, .imul, 1), (183, .bipush 10, 2), (185, .idiv, 1), (186, .isub, 1), (187, .invokestatic 75, 3)]
set_option maxRecDepth 100000 in
theorem dX9_serve_127_g : dX9_serve_127_l.all (fun x => decide (decode cX9_serve x.1 = .ok x.2)) = true := by decide +kernel
noncomputable def dX9_serve_190_l : List (Nat × Instr × Nat) := [(190, .iadd, 1), (191, .iastore, 1), (192, .return_, 1)]
set_option maxRecDepth 100000 in
theorem dX9_serve_190_g : dX9_serve_190_l.all (fun x => decide (decode cX9_serve x.1 = .ok x.2)) = true := by decide +kernel
set_option maxRecDepth 100000 in
theorem gw_X9_serveFrom : wsX9_serveFrom.all goodWord = true := by decide +kernel
set_option maxRecDepth 100000 in
theorem ggX9_findBest_X9_serveFrom : GoodIn wsX9_findBest wsX9_serveFrom := goodIn_sub (sub_g [(7, [0, 0, 0, 0]), (6, [5, 0, 0, 0, 0, 0, 0, 0, 0, 0, 0, 0, 0, 0, 0, 0, 21, 0, 0, 0, 0, 0, 0, 0, 0, 0, 0, 0])] rfl) gw_X9_serveFrom
set_option maxRecDepth 100000 in
theorem gX9_findBest_X9_serveFrom : GoodIn wsX9_findBest (wsV RX9 81 RX9 yX9_serveFrom wsX9_serveFrom) := goodIn_app (goodIn_sub (sub_c (nq_m (n := 3) rfl) (sub_c (nq_m (n := 4) rfl) (sub_c (nq_m (n := 5) rfl) (sub_c (nq_m (n := 6) rfl) sub_n)))) (by decide +kernel)) ggX9_findBest_X9_serveFrom
set_option maxRecDepth 100000 in
theorem gw_X9_keepAsBest : wsX9_keepAsBest.all goodWord = true := by decide +kernel
set_option maxRecDepth 100000 in
theorem ggX9_findBest_X9_keepAsBest : GoodIn wsX9_findBest wsX9_keepAsBest := goodIn_sub (sub_g [(31, []), (1, [0, 5, 23]), (14, [18, 0, 0]), (6, [29]), (22, [14, 0, 0, 0]), (16, [32, 0, 0, 0, 0, 0, 0, 0, 0, 0, 0, 0])] rfl) gw_X9_keepAsBest
set_option maxRecDepth 100000 in
theorem gX9_findBest_X9_keepAsBest : GoodIn wsX9_findBest (wsV RX9 84 RX9 yX9_keepAsBest wsX9_keepAsBest) := goodIn_app (goodIn_sub (sub_c (nq_m (n := 28) rfl) (sub_c (nq_m (n := 29) rfl) (sub_c (nq_m (n := 30) rfl) (sub_c (nq_m (n := 6) rfl) sub_n)))) (by decide +kernel)) ggX9_findBest_X9_keepAsBest
set_option maxRecDepth 100000 in
theorem gw_X9_toNextRow : wsX9_toNextRow.all goodWord = true := by decide +kernel
set_option maxRecDepth 100000 in
theorem ggX9_findBest_X9_toNextRow : GoodIn wsX9_findBest wsX9_toNextRow := goodIn_sub (sub_g [(44, []), (8, [5, 30, 0, 0]), (6, [41]), (25, [0, 0, 21, 0, 0, 0, 0, 0, 0, 0, 0, 0, 0, 0])] rfl) gw_X9_toNextRow
set_option maxRecDepth 100000 in
theorem gX9_findBest_X9_toNextRow : GoodIn wsX9_findBest (wsV RX9 87 RX9 yX9_toNextRow wsX9_toNextRow) := goodIn_app (goodIn_sub (sub_c (nq_m (n := 41) rfl) (sub_c (nq_m (n := 42) rfl) (sub_c (nq_m (n := 43) rfl) (sub_c (nq_m (n := 6) rfl) sub_n)))) (by decide +kernel)) ggX9_findBest_X9_toNextRow
set_option maxRecDepth 100000 in
theorem gw_X9_sumOfTips : wsX9_sumOfTips.all goodWord = true := by decide +kernel
set_option maxRecDepth 100000 in
theorem ggX9_findBest_X9_sumOfTips : GoodIn wsX9_findBest wsX9_sumOfTips := goodIn_sub (sub_g [(36, []), (22, []), (8, [40, 0, 0, 0, 0, 0, 0, 0, 0, 0, 0, 0])] rfl) gw_X9_sumOfTips
set_option maxRecDepth 100000 in
theorem gX9_findBest_X9_sumOfTips : GoodIn wsX9_findBest (wsV RX9 91 RX9 yX9_sumOfTips wsX9_sumOfTips) := goodIn_app (goodIn_sub (sub_c (nq_m (n := 33) rfl) (sub_c (nq_m (n := 34) rfl) (sub_c (nq_m (n := 35) rfl) (sub_c (nq_m (n := 6) rfl) sub_n)))) (by decide +kernel)) ggX9_findBest_X9_sumOfTips
set_option maxRecDepth 100000 in
theorem gw_X9_sumOfWaits : wsX9_sumOfWaits.all goodWord = true := by decide +kernel
set_option maxRecDepth 100000 in
theorem ggX9_findBest_X9_sumOfWaits : GoodIn wsX9_findBest wsX9_sumOfWaits := goodIn_sub (sub_g [(40, []), (16, []), (8, [40, 0, 0, 0, 0, 0, 0, 0, 0, 0, 0, 0])] rfl) gw_X9_sumOfWaits
set_option maxRecDepth 100000 in
theorem gX9_findBest_X9_sumOfWaits : GoodIn wsX9_findBest (wsV RX9 94 RX9 yX9_sumOfWaits wsX9_sumOfWaits) := goodIn_app (goodIn_sub (sub_c (nq_m (n := 37) rfl) (sub_c (nq_m (n := 38) rfl) (sub_c (nq_m (n := 39) rfl) (sub_c (nq_m (n := 6) rfl) sub_n)))) (by decide +kernel)) ggX9_findBest_X9_sumOfWaits
noncomputable def dX9_findBest_0_l : List (Nat × Instr × Nat) := [(0, .aload_n 0, 1), (1, .iconst 0, 1), (2, .iload_n 1, 1), (3, .invokevirtual 81, 3), (6, .aload_n 0, 1), (7, .invokevirtual 84, 3), (10, .iconst 1, 1), (11, .istore_n 2, 1), (12, .iload_n 2, 1), (13, .sipush 5040, 3), (16, .if_icmp .ge 75, 3), (19, .aload_n 0, 1), (20, .invokevirtual 87, 3), (23, .istore_n 3, 1), (24, .iload_n 3, 1), (25, .iconst (-1), 1), (26, .if_icmp .ne 4, 3), (29, .return_, 1), (30, .aload_n 0, 1), (31, .iload_n 3, 1), (32, .iload_n 1, 1), (33, .invokevirtual 81, 3), (36, .aload_n 0, 1), (37, .invokevirtual 91, 3), (40, .aload_n 0, 1), (41, .getfield 43, 3), (44, .if_icmp .ne 7, 3), (47, .iconst 1, 1), (48, .goto 4, 3), (51, .iconst 0, 1), (52, .istore 4, 2), (54, .aload_n 0, 1), (55, .invokevirtual 91, 3), (58, .aload_n 0, 1), (59, .getfield 43, 3), (62, .if_icmp .gt 19, 3), (65, .iload 4, 2), (67, .ifCond .eq 18, 3), (70, .aload_n 0, 1), (71, .invokevirtual 94, 3)]
set_option maxRecDepth 100000 in
theorem dX9_findBest_0_g : dX9_findBest_0_l.all (fun x => decide (decode cX9_findBest x.1 = .ok x.2)) = true := by decide +kernel
noncomputable def dX9_findBest_74_l : List (Nat × Instr × Nat) := [(74, .aload_n 0, 1), (75, .getfield 46, 3), (78, .if_icmp .ge 7, 3), (81, .aload_n 0, 1), (82, .invokevirtual 84, 3), (85, .iinc 2 1, 3), (88, .goto (-76), 3), (91, .return_, 1)]
set_option maxRecDepth 100000 in
theorem dX9_findBest_74_g : dX9_findBest_74_l.all (fun x => decide (decode cX9_findBest x.1 = .ok x.2)) = true := by decide +kernel
set_option maxRecDepth 100000 in
theorem ggX9_keepAsBest_X9_sumOfTips : GoodIn wsX9_keepAsBest wsX9_sumOfTips := goodIn_sub (sub_g [(10, [0]), (3, [13, 0, 0, 0, 0, 0, 0, 0, 0, 0, 0, 0])] rfl) gw_X9_sumOfTips
set_option maxRecDepth 100000 in
theorem gX9_keepAsBest_X9_sumOfTips : GoodIn wsX9_keepAsBest (wsV RX9 91 RX9 yX9_sumOfTips wsX9_sumOfTips) := goodIn_app (goodIn_sub (sub_c (nq_m (n := 6) rfl) (sub_c (nq_m (n := 7) rfl) (sub_c (nq_m (n := 8) rfl) (sub_c (nq_m (n := 9) rfl) sub_n)))) (by decide +kernel)) ggX9_keepAsBest_X9_sumOfTips
set_option maxRecDepth 100000 in
theorem ggX9_keepAsBest_X9_sumOfWaits : GoodIn wsX9_keepAsBest wsX9_sumOfWaits := goodIn_sub (sub_g [(15, [0]), (3, [13, 0, 0, 0, 0, 0, 0, 0, 0, 0, 0, 0])] rfl) gw_X9_sumOfWaits
set_option maxRecDepth 100000 in
theorem gX9_keepAsBest_X9_sumOfWaits : GoodIn wsX9_keepAsBest (wsV RX9 94 RX9 yX9_sumOfWaits wsX9_sumOfWaits) := goodIn_app (goodIn_sub (sub_c (nq_m (n := 12) rfl) (sub_c (nq_m (n := 13) rfl) (sub_c (nq_m (n := 14) rfl) (sub_c (nq_m (n := 9) rfl) sub_n)))) (by decide +kernel)) ggX9_keepAsBest_X9_sumOfWaits
noncomputable def dX9_keepAsBest_0_l : List (Nat × Instr × Nat) := [(0, .aload_n 0, 1), (1, .aload_n 0, 1), (2, .invokevirtual 91, 3), (5, .putfield 43, 3), (8, .aload_n 0, 1), (9, .aload_n 0, 1), (10, .invokevirtual 94, 3), (13, .putfield 46, 3), (16, .iconst 0, 1), (17, .istore_n 1, 1), (18, .iload_n 1, 1), (19, .aload_n 0, 1), (20, .getfield 36, 3), (23, .if_icmp .ge 27, 3), (26, .iload_n 1, 1), (27, .bipush 7, 2), (29, .if_icmp .ge 21, 3), (32, .aload_n 0, 1), (33, .getfield 33, 3), (36, .iload_n 1, 1), (37, .aload_n 0, 1), (38, .getfield 18, 3), (41, .iload_n 1, 1), (42, .iaload, 1), (43, .iastore, 1), (44, .iinc 1 1, 3), (47, .goto (-29), 3), (50, .return_, 1)]
set_option maxRecDepth 100000 in
theorem dX9_keepAsBest_0_g : dX9_keepAsBest_0_l.all (fun x => decide (decode cX9_keepAsBest x.1 = .ok x.2)) = true := by decide +kernel
set_option maxRecDepth 100000 in
theorem gw_X9_swap : wsX9_swap.all goodWord = true := by decide +kernel
set_option maxRecDepth 100000 in
theorem ggX9_toNextRow_X9_swap : GoodIn wsX9_toNextRow wsX9_swap := goodIn_sub (sub_g [(7, []), (2, [5, 0, 0, 0, 0, 0, 0, 0, 0, 0, 0, 0, 0, 0, 0])] rfl) gw_X9_swap
set_option maxRecDepth 100000 in
theorem gX9_toNextRow_X9_swap : GoodIn wsX9_toNextRow (wsV RX9 97 RX9 yX9_swap wsX9_swap) := goodIn_app (goodIn_sub (sub_c (nq_m (n := 3) rfl) (sub_c (nq_m (n := 4) rfl) (sub_c (nq_m (n := 5) rfl) (sub_c (nq_m (n := 6) rfl) sub_n)))) (by decide +kernel)) ggX9_toNextRow_X9_swap
noncomputable def dX9_toNextRow_0_l : List (Nat × Instr × Nat) := [(0, .aload_n 0, 1), (1, .getfield 36, 3), (4, .iconst 2, 1), (5, .isub, 1), (6, .istore_n 1, 1), (7, .iload_n 1, 1), (8, .ifCond .lt 26, 3), (11, .aload_n 0, 1), (12, .getfield 18, 3), (15, .iload_n 1, 1), (16, .iaload, 1), (17, .aload_n 0, 1), (18, .getfield 18, 3), (21, .iload_n 1, 1), (22, .iconst 1, 1), (23, .iadd, 1), (24, .iaload, 1), (25, .if_icmp .le 9, 3), (28, .iinc 1 (-1), 3), (31, .goto (-24), 3), (34, .iload_n 1, 1), (35, .ifCond .ge 5, 3), (38, .iconst (-1), 1), (39, .ireturn, 1), (40, .aload_n 0, 1), (41, .getfield 36, 3), (44, .iconst 1, 1), (45, .isub, 1), (46, .istore_n 2, 1), (47, .iload_n 2, 1), (48, .iload_n 1, 1), (49, .if_icmp .le 24, 3), (52, .aload_n 0, 1), (53, .getfield 18, 3), (56, .iload_n 2, 1), (57, .iaload, 1), (58, .aload_n 0, 1), (59, .getfield 18, 3), (62, .iload_n 1, 1), (63, .iaload, 1)]
set_option maxRecDepth 100000 in
theorem dX9_toNextRow_0_g : dX9_toNextRow_0_l.all (fun x => decide (decode cX9_toNextRow x.1 = .ok x.2)) = true := by decide +kernel
noncomputable def dX9_toNextRow_64_l : List (Nat × Instr × Nat) := [(64, .if_icmp .ge 9, 3), (67, .iinc 2 (-1), 3), (70, .goto (-23), 3), (73, .aload_n 0, 1), (74, .iload_n 1, 1), (75, .iload_n 2, 1), (76, .invokevirtual 97, 3), (79, .iload_n 1, 1), (80, .iconst 1, 1), (81, .iadd, 1), (82, .istore_n 3, 1), (83, .aload_n 0, 1), (84, .getfield 36, 3), (87, .iconst 1, 1), (88, .isub, 1), (89, .istore 4, 2), (91, .iload_n 3, 1), (92, .iload 4, 2), (94, .if_icmp .ge 19, 3), (97, .aload_n 0, 1), (98, .iload_n 3, 1), (99, .iload 4, 2), (101, .invokevirtual 97, 3), (104, .iinc 3 1, 3), (107, .iinc 4 (-1), 3), (110, .goto (-19), 3), (113, .iload_n 1, 1), (114, .ireturn, 1)]
set_option maxRecDepth 100000 in
theorem dX9_toNextRow_64_g : dX9_toNextRow_64_l.all (fun x => decide (decode cX9_toNextRow x.1 = .ok x.2)) = true := by decide +kernel
set_option maxRecDepth 100000 in
theorem ggX9_swap_X10_within : GoodIn wsX9_swap wsX10_within := goodIn_sub (sub_c (nq_m (n := 4) rfl) sub_n) gw_X10_within
set_option maxRecDepth 100000 in
theorem gX9_swap_X10_within_n71 : GoodIn wsX9_swap (wsX10_within) := ggX9_swap_X10_within
noncomputable def dX9_swap_0_l : List (Nat × Instr × Nat) := [(0, .iload_n 1, 1), (1, .iconst 0, 1), (2, .bipush 15, 2), (4, .invokestatic 71, 3), (7, .ifCond .eq 13, 3), (10, .iload_n 2, 1), (11, .iconst 0, 1), (12, .bipush 15, 2), (14, .invokestatic 71, 3), (17, .ifCond .ne 4, 3), (20, .return_, 1), (21, .aload_n 0, 1), (22, .getfield 18, 3), (25, .iload_n 1, 1), (26, .iaload, 1), (27, .istore_n 3, 1), (28, .aload_n 0, 1), (29, .getfield 18, 3), (32, .iload_n 1, 1), (33, .aload_n 0, 1), (34, .getfield 18, 3), (37, .iload_n 2, 1), (38, .iaload, 1), (39, .iastore, 1), (40, .aload_n 0, 1), (41, .getfield 18, 3), (44, .iload_n 2, 1), (45, .iload_n 3, 1), (46, .iastore, 1), (47, .return_, 1)]
set_option maxRecDepth 100000 in
theorem dX9_swap_0_g : dX9_swap_0_l.all (fun x => decide (decode cX9_swap x.1 = .ok x.2)) = true := by decide +kernel
set_option maxRecDepth 100000 in
theorem ggX10_init_X3_init : GoodIn wsX10_init wsX3_init := goodIn_sub (sub_g [(33, [0]), (2, [0, 31, 0, 0, 0, 0, 0, 0, 0, 106, 0, 0, 0, 0, 0, 0])] rfl) gw_X3_init
set_option maxRecDepth 100000 in
theorem gX10_init_X3_init_n9 : GoodIn wsX10_init (wsX3_init) := ggX10_init_X3_init
set_option maxRecDepth 100000 in
theorem gw_X8_init : wsX8_init.all goodWord = true := by decide +kernel
set_option maxRecDepth 100000 in
theorem ggX10_init_X8_init : GoodIn wsX10_init wsX8_init := goodIn_sub (sub_g [(44, [0]), (2, [0, 42, 0, 0, 0, 0, 0, 0, 0, 0]), (5, [0, 48]), (32, [0, 0, 0, 0, 0, 0, 0, 0, 0, 0, 123, 0, 0, 0, 0, 0, 0, 0]), (149, [0, 0, 0, 0, 0, 0])] rfl) gw_X8_init
set_option maxRecDepth 100000 in
theorem gX10_init_X8_init_n18 : GoodIn wsX10_init (wsX8_init) := ggX10_init_X8_init
set_option maxRecDepth 100000 in
theorem gw_X4_init : wsX4_init.all goodWord = true := by decide +kernel
set_option maxRecDepth 100000 in
theorem ggX10_init_X4_init : GoodIn wsX10_init wsX4_init := goodIn_sub (sub_g [(57, [0]), (2, [0, 55, 0, 0, 0, 0, 0, 0, 0, 0, 0, 0, 0, 0, 0, 0, 0, 0, 0, 0, 0, 0]), (35, [44, 0, 0, 0, 0, 0, 0, 0, 0, 0, 0, 0, 0, 0, 0, 0, 0, 0, 0, 0, 0, 0, 0, 0, 94, 0, 0, 0, 0, 0, 0, 0]), (174, [0, 0, 0, 0, 27, 0, 0, 0, 0, 0, 0, 0])] rfl) gw_X4_init
set_option maxRecDepth 100000 in
theorem gX10_init_X4_init_n25 : GoodIn wsX10_init (wsX4_init) := ggX10_init_X4_init
set_option maxRecDepth 100000 in
theorem gw_X7_init : wsX7_init.all goodWord = true := by decide +kernel
set_option maxRecDepth 100000 in
theorem ggX10_init_X7_init : GoodIn wsX10_init wsX7_init := goodIn_sub (sub_g [(105, [0]), (2, [0, 31, 71, 0, 0, 0, 0, 67, 0, 0, 0])] rfl) gw_X7_init
set_option maxRecDepth 100000 in
theorem gX10_init_X7_init_n38 : GoodIn wsX10_init (wsX7_init) := ggX10_init_X7_init
set_option maxRecDepth 100000 in
theorem gw_X9_init : wsX9_init.all goodWord = true := by decide +kernel
set_option maxRecDepth 100000 in
theorem ggX10_init_X9_init : GoodIn wsX10_init wsX9_init := goodIn_sub (sub_g [(113, [0]), (2, [0, 31, 79, 0, 0, 0, 0, 0, 0, 0, 0, 0, 0, 0, 56, 0, 0, 0, 0, 0, 0, 0, 0, 0, 0, 0])] rfl) gw_X9_init
set_option maxRecDepth 100000 in
theorem gX10_init_X9_init_n45 : GoodIn wsX10_init (wsX9_init) := ggX10_init_X9_init
set_option maxRecDepth 100000 in
theorem gw_X5_init : wsX5_init.all goodWord = true := by decide +kernel
set_option maxRecDepth 100000 in
theorem ggX10_init_X5_init : GoodIn wsX10_init wsX5_init := goodIn_sub (sub_g [(128, [0]), (2, [0, 31, 94, 0, 0, 0, 61, 0, 0])] rfl) gw_X5_init
set_option maxRecDepth 100000 in
theorem gX10_init_X5_init_n52 : GoodIn wsX10_init (wsX5_init) := ggX10_init_X5_init
set_option maxRecDepth 100000 in
theorem ggX10_init_X3_clear : GoodIn wsX10_init wsX3_clear := goodIn_sub (sub_g [(137, []), (40, [0, 0, 95, 0, 0]), (6, [134]), (39, [102, 0, 0, 0]), (38, [107, 0, 0, 0, 0, 0, 0, 0, 0, 0])] rfl) gw_X3_clear
set_option maxRecDepth 100000 in
theorem gX10_init_X3_clear : GoodIn wsX10_init (wsV RX10 64 RX3 yX3_clear wsX3_clear) := goodIn_app (goodIn_sub (sub_c (nq_m (n := 134) rfl) (sub_c (nq_m (n := 135) rfl) (sub_c (nq_m (n := 136) rfl) (sub_c (nq_m (n := 6) rfl) sub_n)))) (by decide +kernel)) ggX10_init_X3_clear
noncomputable def dX10_init_0_l : List (Nat × Instr × Nat) := [(0, .aload_n 0, 1), (1, .invokespecial 1, 3), (4, .aload_n 0, 1), (5, .new 7, 3), (8, .dup, 1), (9, .invokespecial 9, 3), (12, .putfield 10, 3), (15, .aload_n 0, 1), (16, .new 16, 3), (19, .dup, 1), (20, .invokespecial 18, 3), (23, .putfield 19, 3), (26, .aload_n 0, 1), (27, .new 23, 3), (30, .dup, 1), (31, .invokespecial 25, 3), (34, .putfield 26, 3), (37, .aload_n 0, 1), (38, .new 23, 3), (41, .dup, 1), (42, .invokespecial 25, 3), (45, .putfield 30, 3), (48, .aload_n 0, 1), (49, .new 23, 3), (52, .dup, 1), (53, .invokespecial 25, 3), (56, .putfield 33, 3), (59, .aload_n 0, 1), (60, .new 36, 3), (63, .dup, 1), (64, .invokespecial 38, 3), (67, .putfield 39, 3), (70, .aload_n 0, 1), (71, .new 43, 3), (74, .dup, 1), (75, .invokespecial 45, 3), (78, .putfield 46, 3), (81, .aload_n 0, 1), (82, .new 50, 3), (85, .dup, 1)]
set_option maxRecDepth 100000 in
theorem dX10_init_0_g : dX10_init_0_l.all (fun x => decide (decode cX10_init x.1 = .ok x.2)) = true := by decide +kernel
noncomputable def dX10_init_86_l : List (Nat × Instr × Nat) := [(86, .invokespecial 52, 3), (89, .putfield 53, 3), (92, .aload_n 0, 1), (93, .iconst (-1), 1), (94, .putfield 57, 3), (97, .aload_n 0, 1), (98, .iconst 0, 1), (99, .putfield 61, 3), (102, .aload_n 0, 1), (103, .getfield 10, 3), (106, .invokevirtual 64, 3), (109, .return_, 1)]
set_option maxRecDepth 100000 in
theorem dX10_init_86_g : dX10_init_86_l.all (fun x => decide (decode cX10_init x.1 = .ok x.2)) = true := by decide +kernel
set_option maxRecDepth 100000 in
theorem ggX10_feed_X10_within : GoodIn wsX10_feed wsX10_within := goodIn_sub (sub_c (nq_m (n := 6) rfl) sub_n) gw_X10_within
set_option maxRecDepth 100000 in
theorem gX10_feed_X10_within : GoodIn wsX10_feed (va_wsS RX10 67 yX10_within wsX10_within) := goodIn_app (goodIn_sub (sub_c (nq_m (n := 3) rfl) (sub_c (nq_m (n := 4) rfl) (sub_c (nq_m (n := 5) rfl) sub_n))) (by decide +kernel)) ggX10_feed_X10_within
set_option maxRecDepth 100000 in
theorem gw_X8_append : wsX8_append.all goodWord = true := by decide +kernel
set_option maxRecDepth 100000 in
theorem ggX10_feed_X8_append : GoodIn wsX10_feed wsX8_append := goodIn_sub (sub_g [(11, [0, 0, 10, 0, 0, 0, 0, 0, 0, 0])] rfl) gw_X8_append
set_option maxRecDepth 100000 in
theorem gX10_feed_X8_append : GoodIn wsX10_feed (wsV RX10 74 RX8 yX8_append wsX8_append) := goodIn_app (goodIn_sub (sub_c (nq_m (n := 7) rfl) (sub_c (nq_m (n := 8) rfl) (sub_c (nq_m (n := 9) rfl) (sub_c (nq_m (n := 10) rfl) sub_n)))) (by decide +kernel)) ggX10_feed_X8_append
noncomputable def dX10_feed_0_l : List (Nat × Instr × Nat) := [(0, .iload_n 1, 1), (1, .iconst 1, 1), (2, .bipush 8, 2), (4, .invokestatic 67, 3), (7, .ifCond .ne 7, 3), (10, .sipush (-1002), 3), (13, .ireturn, 1), (14, .aload_n 0, 1), (15, .getfield 19, 3), (18, .getfield 71, 3), (21, .iload_n 1, 1), (22, .iadd, 1), (23, .sipush 240, 3), (26, .if_icmp .le 7, 3), (29, .sipush (-1004), 3), (32, .ireturn, 1), (33, .aload_n 0, 1), (34, .getfield 19, 3), (37, .iload_n 1, 1), (38, .lload_n 2, 1), (39, .invokevirtual 74, 3), (42, .ireturn, 1)]
set_option maxRecDepth 100000 in
theorem dX10_feed_0_g : dX10_feed_0_l.all (fun x => decide (decode cX10_feed x.1 = .ok x.2)) = true := by decide +kernel
set_option maxRecDepth 100000 in
theorem gw_X8_read : wsX8_read.all goodWord = true := by decide +kernel
set_option maxRecDepth 100000 in
theorem ggX10_hall_X8_read : GoodIn wsX10_hall wsX8_read := goodIn_sub (sub_g [(14, [0, 0, 0, 0, 0, 0, 0, 0, 0, 0, 0, 0, 0, 0, 0, 0, 0, 0, 0, 0, 0, 0, 0, 0, 0, 0, 0, 0, 0, 0]), (13, [31, 0, 0, 0, 0, 0, 0, 0, 0, 0, 0, 0, 0, 0, 0, 0, 0, 0, 0, 0, 0, 0, 0, 0, 0, 0, 0, 0, 0, 0, 0, 0, 0, 0, 0, 0, 0, 0, 0, 0, 0, 0, 0, 0, 0, 0, 0, 0, 0, 0, 0, 0, 0, 0, 0, 0, 0, 0, 0, 0, 0, 0, 0, 0, 0, 0, 0, 0, 0, 0, 0, 0, 0, 0, 0, 0, 0, 0, 0, 0, 0, 0, 0, 0, 0, 0, 0, 0, 0, 0, 0, 0, 0, 0, 0, 0, 0, 0, 0, 0, 0, 0, 0, 0, 0, 0, 0, 0, 0, 0, 0, 28, 0, 0, 0, 0, 0, 0, 0]), (177, [0, 0, 0, 0, 0, 0])] rfl) gw_X8_read
set_option maxRecDepth 100000 in
theorem gX10_hall_X8_read : GoodIn wsX10_hall (wsV RX10 87 RX8 yX8_read wsX8_read) := goodIn_app (goodIn_sub (sub_c (nq_m (n := 10) rfl) (sub_c (nq_m (n := 11) rfl) (sub_c (nq_m (n := 12) rfl) (sub_c (nq_m (n := 13) rfl) sub_n)))) (by decide +kernel)) ggX10_hall_X8_read
set_option maxRecDepth 100000 in
theorem gw_X8_changeDraft : wsX8_changeDraft.all goodWord = true := by decide +kernel
set_option maxRecDepth 100000 in
theorem ggX10_hall_X8_changeDraft : GoodIn wsX10_hall wsX8_changeDraft := goodIn_sub (sub_g [(159, []), (15, [168, 0, 0, 0, 0, 0, 0, 0])] rfl) gw_X8_changeDraft
set_option maxRecDepth 100000 in
theorem gX10_hall_X8_changeDraft : GoodIn wsX10_hall (wsV RX10 91 RX8 yX8_changeDraft wsX8_changeDraft) := goodIn_app (goodIn_sub (sub_c (nq_m (n := 156) rfl) (sub_c (nq_m (n := 157) rfl) (sub_c (nq_m (n := 158) rfl) (sub_c (nq_m (n := 13) rfl) sub_n)))) (by decide +kernel)) ggX10_hall_X8_changeDraft
noncomputable def dX10_hall_0_l : List (Nat × Instr × Nat) := [(0, .aload_n 0, 1), (1, .getfield 26, 3), (4, .getfield 78, 3), (7, .getfield 82, 3), (10, .ifCond .le 7, 3), (13, .sipush (-1003), 3), (16, .ireturn, 1), (17, .aload_n 0, 1), (18, .getfield 19, 3), (21, .invokevirtual 87, 3), (24, .istore_n 1, 1), (25, .iload_n 1, 1), (26, .ifCond .eq 8, 3), (29, .bipush (-10), 2), (31, .iload_n 1, 1), (32, .isub, 1), (33, .ireturn, 1), (34, .aload_n 0, 1), (35, .aload_n 0, 1), (36, .getfield 19, 3), (39, .aload_n 0, 1), (40, .getfield 10, 3), (43, .invokevirtual 91, 3), (46, .putfield 10, 3), (49, .aload_n 0, 1), (50, .getfield 30, 3), (53, .iconst 0, 1), (54, .putfield 95, 3), (57, .aload_n 0, 1), (58, .getfield 33, 3), (61, .iconst 0, 1), (62, .putfield 95, 3), (65, .aload_n 0, 1), (66, .getfield 10, 3), (69, .getfield 99, 3), (72, .ireturn, 1)]
set_option maxRecDepth 100000 in
theorem dX10_hall_0_g : dX10_hall_0_l.all (fun x => decide (decode cX10_hall x.1 = .ok x.2)) = true := by decide +kernel
noncomputable def dX10_fault_0_l : List (Nat × Instr × Nat) := [(0, .aload_n 0, 1), (1, .getfield 19, 3), (4, .getfield 102, 3), (7, .ireturn, 1)]
set_option maxRecDepth 100000 in
theorem dX10_fault_0_g : dX10_fault_0_l.all (fun x => decide (decode cX10_fault x.1 = .ok x.2)) = true := by decide +kernel
set_option maxRecDepth 100000 in
theorem ggX10_peg_X3_hasPeg : GoodIn wsX10_peg wsX3_hasPeg := goodIn_sub (sub_g [(10, [0, 17, 0, 0, 0, 0, 0, 0])] rfl) gw_X3_hasPeg
set_option maxRecDepth 100000 in
theorem gX10_peg_X3_hasPeg : GoodIn wsX10_peg (wsV RX10 105 RX3 yX3_hasPeg wsX3_hasPeg) := goodIn_app (goodIn_sub (sub_c (nq_m (n := 6) rfl) (sub_c (nq_m (n := 7) rfl) (sub_c (nq_m (n := 8) rfl) (sub_c (nq_m (n := 9) rfl) sub_n)))) (by decide +kernel)) ggX10_peg_X3_hasPeg
set_option maxRecDepth 100000 in
theorem gw_X2_ownerOn : wsX2_ownerOn.all goodWord = true := by decide +kernel
set_option maxRecDepth 100000 in
theorem ggX10_peg_X2_ownerOn : GoodIn wsX10_peg wsX2_ownerOn := goodIn_sub (sub_g [(16, [0, 0, 22, 0, 0, 0, 0, 0, 0, 0])] rfl) gw_X2_ownerOn
set_option maxRecDepth 100000 in
theorem gX10_peg_X2_ownerOn : GoodIn wsX10_peg (wsV RX10 120 RX2 yX2_ownerOn wsX2_ownerOn) := goodIn_app (goodIn_sub (sub_c (nq_m (n := 12) rfl) (sub_c (nq_m (n := 13) rfl) (sub_c (nq_m (n := 14) rfl) (sub_c (nq_m (n := 15) rfl) sub_n)))) (by decide +kernel)) ggX10_peg_X2_ownerOn
noncomputable def dX10_peg_0_l : List (Nat × Instr × Nat) := [(0, .aload_n 0, 1), (1, .getfield 10, 3), (4, .iload_n 1, 1), (5, .invokevirtual 105, 3), (8, .ifCond .ne 7, 3), (11, .sipush (-1001), 3), (14, .ireturn, 1), (15, .iload_n 2, 1), (16, .tableswitch 60 0 2 #[28, 38, 48], 28), (44, .aload_n 0, 1), (45, .getfield 10, 3), (48, .getfield 109, 3), (51, .iload_n 1, 1), (52, .iaload, 1), (53, .ireturn, 1), (54, .aload_n 0, 1), (55, .getfield 10, 3), (58, .getfield 113, 3), (61, .iload_n 1, 1), (62, .iaload, 1), (63, .ireturn, 1), (64, .aload_n 0, 1), (65, .getfield 26, 3), (68, .getfield 116, 3), (71, .iload_n 1, 1), (72, .invokevirtual 120, 3), (75, .ireturn, 1), (76, .sipush (-1002), 3), (79, .ireturn, 1)]
set_option maxRecDepth 100000 in
theorem dX10_peg_0_g : dX10_peg_0_l.all (fun x => decide (decode cX10_peg x.1 = .ok x.2)) = true := by decide +kernel
set_option maxRecDepth 100000 in
theorem ggX10_odds_X10_within : GoodIn wsX10_odds wsX10_within := goodIn_sub (sub_c (nq_m (n := 5) rfl) sub_n) gw_X10_within
set_option maxRecDepth 100000 in
theorem gX10_odds_X10_within : GoodIn wsX10_odds (va_wsS RX10 67 yX10_within wsX10_within) := goodIn_app (goodIn_sub (sub_c (nq_m (n := 2) rfl) (sub_c (nq_m (n := 3) rfl) (sub_c (nq_m (n := 4) rfl) sub_n))) (by decide +kernel)) ggX10_odds_X10_within
set_option maxRecDepth 100000 in
theorem gw_X3_shareOf : wsX3_shareOf.all goodWord = true := by decide +kernel
set_option maxRecDepth 100000 in
theorem ggX10_odds_X3_shareOf : GoodIn wsX10_odds wsX3_shareOf := goodIn_sub (sub_g [(10, [0]), (3, [0, 0, 16, 0, 0, 0, 0, 0, 0])] rfl) gw_X3_shareOf
set_option maxRecDepth 100000 in
theorem gX10_odds_X3_shareOf : GoodIn wsX10_odds (wsV RX10 126 RX3 yX3_shareOf wsX3_shareOf) := goodIn_app (goodIn_sub (sub_c (nq_m (n := 6) rfl) (sub_c (nq_m (n := 7) rfl) (sub_c (nq_m (n := 8) rfl) (sub_c (nq_m (n := 9) rfl) sub_n)))) (by decide +kernel)) ggX10_odds_X3_shareOf
noncomputable def dX10_odds_0_l : List (Nat × Instr × Nat) := [(0, .iload_n 1, 1), (1, .iconst 0, 1), (2, .iconst 3, 1), (3, .invokestatic 67, 3), (6, .ifCond .eq 12, 3), (9, .iload_n 2, 1), (10, .iconst 0, 1), (11, .iconst 2, 1), (12, .invokestatic 67, 3), (15, .ifCond .ne 7, 3), (18, .sipush (-1002), 3), (21, .ireturn, 1), (22, .aload_n 0, 1), (23, .getfield 10, 3), (26, .iload_n 1, 1), (27, .iload_n 2, 1), (28, .invokevirtual 126, 3), (31, .ireturn, 1)]
set_option maxRecDepth 100000 in
theorem dX10_odds_0_g : dX10_odds_0_l.all (fun x => decide (decode cX10_odds x.1 = .ok x.2)) = true := by decide +kernel
set_option maxRecDepth 100000 in
theorem gw_X3_weightOf : wsX3_weightOf.all goodWord = true := by decide +kernel
set_option maxRecDepth 100000 in
theorem ggX10_count_X3_weightOf : GoodIn wsX10_count wsX3_weightOf := goodIn_sub (sub_g [(20, [0, 0, 0, 0, 10, 0, 0, 0, 0, 0, 0])] rfl) gw_X3_weightOf
set_option maxRecDepth 100000 in
theorem gX10_count_X3_weightOf : GoodIn wsX10_count (wsV RX10 151 RX3 yX3_weightOf wsX3_weightOf) := goodIn_app (goodIn_sub (sub_c (nq_m (n := 16) rfl) (sub_c (nq_m (n := 17) rfl) (sub_c (nq_m (n := 18) rfl) (sub_c (nq_m (n := 19) rfl) sub_n)))) (by decide +kernel)) ggX10_count_X3_weightOf
noncomputable def dX10_count_0_l : List (Nat × Instr × Nat) := [(0, .iload_n 1, 1), (1, .tableswitch 162 0 10 #[59, 67, 78, 89, 100, 111, 119, 127, 135, 144, 153], 59), (60, .aload_n 0, 1), (61, .getfield 10, 3), (64, .getfield 99, 3), (67, .ireturn, 1), (68, .aload_n 0, 1), (69, .getfield 26, 3), (72, .getfield 116, 3), (75, .getfield 130, 3), (78, .ireturn, 1), (79, .aload_n 0, 1), (80, .getfield 26, 3), (83, .getfield 78, 3), (86, .getfield 82, 3), (89, .ireturn, 1), (90, .aload_n 0, 1), (91, .getfield 26, 3), (94, .getfield 131, 3), (97, .getfield 135, 3), (100, .ireturn, 1), (101, .aload_n 0, 1), (102, .getfield 26, 3), (105, .getfield 138, 3), (108, .getfield 142, 3), (111, .ireturn, 1), (112, .aload_n 0, 1), (113, .getfield 19, 3), (116, .getfield 71, 3), (119, .ireturn, 1), (120, .aload_n 0, 1), (121, .getfield 10, 3), (124, .getfield 145, 3), (127, .ireturn, 1), (128, .aload_n 0, 1), (129, .getfield 10, 3), (132, .getfield 148, 3), (135, .ireturn, 1), (136, .aload_n 0, 1), (137, .getfield 10, 3)]
set_option maxRecDepth 100000 in
theorem dX10_count_0_g : dX10_count_0_l.all (fun x => decide (decode cX10_count x.1 = .ok x.2)) = true := by decide +kernel
noncomputable def dX10_count_140_l : List (Nat × Instr × Nat) := [(140, .iconst 0, 1), (141, .invokevirtual 151, 3), (144, .ireturn, 1), (145, .aload_n 0, 1), (146, .getfield 10, 3), (149, .iconst 1, 1), (150, .invokevirtual 151, 3), (153, .ireturn, 1), (154, .aload_n 0, 1), (155, .getfield 10, 3), (158, .iconst 2, 1), (159, .invokevirtual 151, 3), (162, .ireturn, 1), (163, .sipush (-1002), 3), (166, .ireturn, 1)]
set_option maxRecDepth 100000 in
theorem dX10_count_140_g : dX10_count_140_l.all (fun x => decide (decode cX10_count x.1 = .ok x.2)) = true := by decide +kernel
set_option maxRecDepth 100000 in
theorem ggX10_guest_X10_within : GoodIn wsX10_guest wsX10_within := goodIn_sub (sub_c (nq_m (n := 7) rfl) sub_n) gw_X10_within
set_option maxRecDepth 100000 in
theorem gX10_guest_X10_within : GoodIn wsX10_guest (va_wsS RX10 67 yX10_within wsX10_within) := goodIn_app (goodIn_sub (sub_c (nq_m (n := 4) rfl) (sub_c (nq_m (n := 5) rfl) (sub_c (nq_m (n := 6) rfl) sub_n))) (by decide +kernel)) ggX10_guest_X10_within
set_option maxRecDepth 100000 in
theorem gw_X2_add : wsX2_add.all goodWord = true := by decide +kernel
set_option maxRecDepth 100000 in
theorem ggX10_guest_X2_add : GoodIn wsX10_guest wsX2_add := goodIn_sub (sub_g [(12, [0, 0, 0, 0, 0, 0, 0, 0, 15, 0, 0, 0, 0, 0, 0, 0])] rfl) gw_X2_add
set_option maxRecDepth 100000 in
theorem gX10_guest_X2_add : GoodIn wsX10_guest (wsV RX10 154 RX2 yX2_add wsX2_add) := goodIn_app (goodIn_sub (sub_c (nq_m (n := 8) rfl) (sub_c (nq_m (n := 9) rfl) (sub_c (nq_m (n := 10) rfl) (sub_c (nq_m (n := 11) rfl) sub_n)))) (by decide +kernel)) ggX10_guest_X2_add
noncomputable def dX10_guest_0_l : List (Nat × Instr × Nat) := [(0, .iload_n 1, 1), (1, .iconst 0, 1), (2, .iconst 3, 1), (3, .invokestatic 67, 3), (6, .ifCond .eq 12, 3), (9, .iload_n 2, 1), (10, .iconst 0, 1), (11, .iconst 2, 1), (12, .invokestatic 67, 3), (15, .ifCond .ne 7, 3), (18, .sipush (-1002), 3), (21, .ireturn, 1), (22, .iload_n 3, 1), (23, .iconst 0, 1), (24, .bipush 99, 2), (26, .invokestatic 67, 3), (29, .ifCond .eq 15, 3), (32, .iload 4, 2), (34, .iconst 0, 1), (35, .sipush 255, 3), (38, .invokestatic 67, 3), (41, .ifCond .ne 7, 3), (44, .sipush (-1002), 3), (47, .ireturn, 1), (48, .aload_n 0, 1), (49, .getfield 26, 3), (52, .getfield 116, 3), (55, .getfield 130, 3), (58, .bipush 16, 2), (60, .if_icmp .lt 7, 3), (63, .sipush (-1004), 3), (66, .ireturn, 1), (67, .aload_n 0, 1), (68, .getfield 26, 3), (71, .getfield 116, 3), (74, .iload_n 1, 1), (75, .iload_n 2, 1), (76, .iload_n 3, 1), (77, .iload 4, 2), (79, .invokevirtual 154, 3)]
set_option maxRecDepth 100000 in
theorem dX10_guest_0_g : dX10_guest_0_l.all (fun x => decide (decode cX10_guest x.1 = .ok x.2)) = true := by decide +kernel
theorem dX10_guest_82 : decode cX10_guest 82 = .ok (.ireturn, 1) := by decide +kernel
set_option maxRecDepth 100000 in
theorem ggX10_told_X2_knows : GoodIn wsX10_told wsX2_knows := goodIn_sub (sub_g [(14, [0, 52, 0, 0, 0, 0, 0, 0, 0])] rfl) gw_X2_knows
set_option maxRecDepth 100000 in
theorem gX10_told_X2_knows : GoodIn wsX10_told (wsV RX10 158 RX2 yX2_knows wsX2_knows) := goodIn_app (goodIn_sub (sub_c (nq_m (n := 10) rfl) (sub_c (nq_m (n := 11) rfl) (sub_c (nq_m (n := 12) rfl) (sub_c (nq_m (n := 13) rfl) sub_n)))) (by decide +kernel)) ggX10_told_X2_knows
set_option maxRecDepth 100000 in
theorem gw_X2_holderOf : wsX2_holderOf.all goodWord = true := by decide +kernel
set_option maxRecDepth 100000 in
theorem ggX10_told_X2_holderOf : GoodIn wsX10_told wsX2_holderOf := goodIn_sub (sub_g [(19, []), (15, [4, 47, 0, 0, 0, 0, 0, 0, 0])] rfl) gw_X2_holderOf
set_option maxRecDepth 100000 in
theorem gX10_told_X2_holderOf : GoodIn wsX10_told (wsV RX10 177 RX2 yX2_holderOf wsX2_holderOf) := goodIn_app (goodIn_sub (sub_c (nq_m (n := 16) rfl) (sub_c (nq_m (n := 17) rfl) (sub_c (nq_m (n := 18) rfl) (sub_c (nq_m (n := 13) rfl) sub_n)))) (by decide +kernel)) ggX10_told_X2_holderOf
set_option maxRecDepth 100000 in
theorem gw_X10_expectedOf : wsX10_expectedOf.all goodWord = true := by decide +kernel
set_option maxRecDepth 100000 in
theorem ggX10_told_X10_expectedOf : GoodIn wsX10_told wsX10_expectedOf := goodIn_sub (sub_g [(25, []), (1, [0, 0, 22]), (10, [0, 0, 0, 0, 0, 11, 0, 0]), (24, [5, 0, 0, 0, 0, 0, 0, 0, 0, 0, 0, 0, 0, 0, 0, 0, 0, 0, 0, 0, 0, 0, 0, 0, 0, 0, 0, 0, 0, 0, 0, 0, 0, 0, 0, 0, 0, 0, 0, 0, 0, 0, 0, 0, 0, 0, 0, 0, 0, 0, 0, 0, 0, 0, 0])] rfl) gw_X10_expectedOf
set_option maxRecDepth 100000 in
theorem gX10_told_X10_expectedOf : GoodIn wsX10_told (wsV RX10 183 RX10 yX10_expectedOf wsX10_expectedOf) := goodIn_app (goodIn_sub (sub_c (nq_m (n := 21) rfl) (sub_c (nq_m (n := 22) rfl) (sub_c (nq_m (n := 23) rfl) (sub_c (nq_m (n := 24) rfl) sub_n)))) (by decide +kernel)) ggX10_told_X10_expectedOf
noncomputable def dX10_told_0_l : List (Nat × Instr × Nat) := [(0, .aload_n 0, 1), (1, .getfield 26, 3), (4, .getfield 116, 3), (7, .astore_n 3, 1), (8, .aload_n 3, 1), (9, .iload_n 1, 1), (10, .invokevirtual 158, 3), (13, .ifCond .ne 7, 3), (16, .sipush (-1001), 3), (19, .ireturn, 1), (20, .iload_n 2, 1), (21, .tableswitch 112 0 8 #[51, 58, 65, 72, 79, 86, 93, 99, 106], 51), (72, .aload_n 3, 1), (73, .getfield 161, 3), (76, .iload_n 1, 1), (77, .iaload, 1), (78, .ireturn, 1), (79, .aload_n 3, 1), (80, .getfield 164, 3), (83, .iload_n 1, 1), (84, .iaload, 1), (85, .ireturn, 1), (86, .aload_n 3, 1), (87, .getfield 165, 3), (90, .iload_n 1, 1), (91, .iaload, 1), (92, .ireturn, 1), (93, .aload_n 3, 1), (94, .getfield 168, 3), (97, .iload_n 1, 1), (98, .iaload, 1), (99, .ireturn, 1), (100, .aload_n 3, 1), (101, .getfield 171, 3), (104, .iload_n 1, 1), (105, .iaload, 1), (106, .ireturn, 1), (107, .aload_n 3, 1), (108, .getfield 174, 3), (111, .iload_n 1, 1)]
set_option maxRecDepth 100000 in
theorem dX10_told_0_g : dX10_told_0_l.all (fun x => decide (decode cX10_told x.1 = .ok x.2)) = true := by decide +kernel
noncomputable def dX10_told_112_l : List (Nat × Instr × Nat) := [(112, .iaload, 1), (113, .ireturn, 1), (114, .aload_n 3, 1), (115, .iload_n 1, 1), (116, .invokevirtual 177, 3), (119, .ireturn, 1), (120, .aload_n 3, 1), (121, .getfield 180, 3), (124, .iload_n 1, 1), (125, .iaload, 1), (126, .ireturn, 1), (127, .aload_n 0, 1), (128, .iload_n 1, 1), (129, .invokevirtual 183, 3), (132, .ireturn, 1), (133, .sipush (-1002), 3), (136, .ireturn, 1)]
set_option maxRecDepth 100000 in
theorem dX10_told_112_g : dX10_told_112_l.all (fun x => decide (decode cX10_told x.1 = .ok x.2)) = true := by decide +kernel
set_option maxRecDepth 100000 in
theorem ggX10_plan_X2_knows : GoodIn wsX10_plan wsX2_knows := goodIn_sub (sub_g [(12, [0, 94, 0, 0, 0, 0, 0, 0, 0])] rfl) gw_X2_knows
set_option maxRecDepth 100000 in
theorem gX10_plan_X2_knows : GoodIn wsX10_plan (wsV RX10 158 RX2 yX2_knows wsX2_knows) := goodIn_app (goodIn_sub (sub_c (nq_m (n := 8) rfl) (sub_c (nq_m (n := 9) rfl) (sub_c (nq_m (n := 10) rfl) (sub_c (nq_m (n := 11) rfl) sub_n)))) (by decide +kernel)) ggX10_plan_X2_knows
set_option maxRecDepth 100000 in
theorem ggX10_plan_X10_expectedOf : GoodIn wsX10_plan wsX10_expectedOf := goodIn_sub (sub_g [(18, []), (1, [0, 16]), (6, [1, 0, 0, 0, 0, 0, 6, 0, 0]), (17, [5, 0, 0, 0, 0, 0, 0, 0, 0, 0, 0, 0, 0, 0, 0, 0, 0, 0, 0, 0, 0, 0, 0, 47, 0, 0, 0, 0, 0, 0, 0, 0, 0, 0, 0, 0, 0, 0, 0, 0, 0, 0, 0, 0, 0, 0, 4, 0, 0, 0, 0, 0, 0, 0, 0])] rfl) gw_X10_expectedOf
set_option maxRecDepth 100000 in
theorem gX10_plan_X10_expectedOf : GoodIn wsX10_plan (wsV RX10 183 RX10 yX10_expectedOf wsX10_expectedOf) := goodIn_app (goodIn_sub (sub_c (nq_m (n := 14) rfl) (sub_c (nq_m (n := 15) rfl) (sub_c (nq_m (n := 16) rfl) (sub_c (nq_m (n := 17) rfl) sub_n)))) (by decide +kernel)) ggX10_plan_X10_expectedOf
set_option maxRecDepth 100000 in
theorem gw_X7_make : wsX7_make.all goodWord = true := by decide +kernel
set_option maxRecDepth 100000 in
theorem ggX10_plan_X7_make : GoodIn wsX10_plan wsX7_make := goodIn_sub (sub_g [(50, [0, 0, 0, 0, 0, 0, 0, 0]), (49, [9, 0, 0, 0]), (11, [51, 0, 0]), (9, [0, 1, 0, 52, 0, 0, 0, 0, 0, 0, 0, 0]), (30, [44, 0, 0, 0, 0, 0, 0, 0, 0, 0, 0, 0, 0, 0, 27, 0, 0, 0]), (108, [0, 0, 0, 0, 0, 0, 0, 4, 0, 0, 0, 0, 0, 0])] rfl) gw_X7_make
set_option maxRecDepth 100000 in
theorem gX10_plan_X7_make : GoodIn wsX10_plan (wsV RX10 189 RX7 yX7_make wsX7_make) := goodIn_app (goodIn_sub (sub_c (nq_m (n := 46) rfl) (sub_c (nq_m (n := 47) rfl) (sub_c (nq_m (n := 48) rfl) (sub_c (nq_m (n := 49) rfl) sub_n)))) (by decide +kernel)) ggX10_plan_X7_make
set_option maxRecDepth 100000 in
theorem gw_X7_pegOf : wsX7_pegOf.all goodWord = true := by decide +kernel
set_option maxRecDepth 100000 in
theorem ggX10_plan_X7_pegOf : GoodIn wsX10_plan wsX7_pegOf := goodIn_sub (sub_g [(92, []), (53, []), (33, []), (17, [16, 81, 0, 0, 0])] rfl) gw_X7_pegOf
set_option maxRecDepth 100000 in
theorem gX10_plan_X7_pegOf : GoodIn wsX10_plan (wsV RX10 196 RX7 yX7_pegOf wsX7_pegOf) := goodIn_app (goodIn_sub (sub_c (nq_m (n := 89) rfl) (sub_c (nq_m (n := 90) rfl) (sub_c (nq_m (n := 91) rfl) (sub_c (nq_m (n := 49) rfl) sub_n)))) (by decide +kernel)) ggX10_plan_X7_pegOf
noncomputable def dX10_plan_0_l : List (Nat × Instr × Nat) := [(0, .iload_n 2, 1), (1, .iconst (-1), 1), (2, .if_icmp .eq 21, 3), (5, .aload_n 0, 1), (6, .getfield 26, 3), (9, .getfield 116, 3), (12, .iload_n 2, 1), (13, .invokevirtual 158, 3), (16, .ifCond .ne 7, 3), (19, .sipush (-1001), 3), (22, .ireturn, 1), (23, .iconst 0, 1), (24, .istore_n 3, 1), (25, .iload_n 3, 1), (26, .aload_n 0, 1), (27, .getfield 26, 3), (30, .getfield 116, 3), (33, .getfield 130, 3), (36, .if_icmp .ge 23, 3), (39, .aload_n 0, 1), (40, .getfield 39, 3), (43, .getfield 186, 3), (46, .iload_n 3, 1), (47, .aload_n 0, 1), (48, .iload_n 3, 1), (49, .invokevirtual 183, 3), (52, .iastore, 1), (53, .iinc 3 1, 3), (56, .goto (-31), 3), (59, .aload_n 0, 1), (60, .getfield 39, 3), (63, .iload_n 1, 1), (64, .aload_n 0, 1), (65, .getfield 26, 3), (68, .getfield 116, 3), (71, .aload_n 0, 1), (72, .getfield 10, 3), (75, .invokevirtual 189, 3), (78, .ifCond .ne 5, 3), (81, .iconst (-1), 1)]
set_option maxRecDepth 100000 in
theorem dX10_plan_0_g : dX10_plan_0_l.all (fun x => decide (decode cX10_plan x.1 = .ok x.2)) = true := by decide +kernel
noncomputable def dX10_plan_82_l : List (Nat × Instr × Nat) := [(82, .ireturn, 1), (83, .iload_n 2, 1), (84, .iconst (-1), 1), (85, .if_icmp .ne 13, 3), (88, .aload_n 0, 1), (89, .getfield 39, 3), (92, .getfield 193, 3), (95, .goto 11, 3), (98, .aload_n 0, 1), (99, .getfield 39, 3), (102, .iload_n 2, 1), (103, .invokevirtual 196, 3), (106, .ireturn, 1)]
set_option maxRecDepth 100000 in
theorem dX10_plan_82_g : dX10_plan_82_l.all (fun x => decide (decode cX10_plan x.1 = .ok x.2)) = true := by decide +kernel
set_option maxRecDepth 100000 in
theorem ggX10_night_X10_within : GoodIn wsX10_night wsX10_within := goodIn_sub (sub_c (nq_m (n := 7) rfl) sub_n) gw_X10_within
set_option maxRecDepth 100000 in
theorem gX10_night_X10_within : GoodIn wsX10_night (va_wsS RX10 67 yX10_within wsX10_within) := goodIn_app (goodIn_sub (sub_c (nq_m (n := 4) rfl) (sub_c (nq_m (n := 5) rfl) (sub_c (nq_m (n := 6) rfl) sub_n))) (by decide +kernel)) ggX10_night_X10_within
set_option maxRecDepth 100000 in
theorem gw_X6_add : wsX6_add.all goodWord = true := by decide +kernel
set_option maxRecDepth 100000 in
theorem ggX10_night_X6_add : GoodIn wsX10_night wsX6_add := goodIn_sub (sub_g [(12, [0, 0]), (5, [0, 0, 22, 0])] rfl) gw_X6_add
set_option maxRecDepth 100000 in
theorem gX10_night_X6_add : GoodIn wsX10_night (wsV RX10 199 RX6 yX6_add wsX6_add) := goodIn_app (goodIn_sub (sub_c (nq_m (n := 8) rfl) (sub_c (nq_m (n := 9) rfl) (sub_c (nq_m (n := 10) rfl) (sub_c (nq_m (n := 11) rfl) sub_n)))) (by decide +kernel)) ggX10_night_X6_add
noncomputable def dX10_night_0_l : List (Nat × Instr × Nat) := [(0, .iload_n 1, 1), (1, .iconst 0, 1), (2, .iconst 3, 1), (3, .invokestatic 67, 3), (6, .ifCond .eq 12, 3), (9, .iload_n 2, 1), (10, .iconst 0, 1), (11, .iconst 1, 1), (12, .invokestatic 67, 3), (15, .ifCond .ne 7, 3), (18, .sipush (-1002), 3), (21, .ireturn, 1), (22, .iload_n 3, 1), (23, .iconst 0, 1), (24, .sipush 999, 3), (27, .invokestatic 67, 3), (30, .ifCond .eq 27, 3), (33, .iload 4, 2), (35, .iconst 0, 1), (36, .sipush 999, 3), (39, .invokestatic 67, 3), (42, .ifCond .eq 15, 3), (45, .iload 5, 2), (47, .iconst 0, 1), (48, .sipush 999, 3), (51, .invokestatic 67, 3), (54, .ifCond .ne 7, 3), (57, .sipush (-1002), 3), (60, .ireturn, 1), (61, .aload_n 0, 1), (62, .getfield 26, 3), (65, .getfield 138, 3), (68, .getfield 142, 3), (71, .bipush 60, 2), (73, .if_icmp .lt 7, 3), (76, .sipush (-1004), 3), (79, .ireturn, 1), (80, .aload_n 0, 1), (81, .getfield 26, 3), (84, .getfield 138, 3)]
set_option maxRecDepth 100000 in
theorem dX10_night_0_g : dX10_night_0_l.all (fun x => decide (decode cX10_night x.1 = .ok x.2)) = true := by decide +kernel
noncomputable def dX10_night_87_l : List (Nat × Instr × Nat) := [(87, .iload_n 1, 1), (88, .iload_n 2, 1), (89, .iload_n 3, 1), (90, .iload 4, 2), (92, .iload 5, 2), (94, .invokevirtual 199, 3), (97, .ireturn, 1)]
set_option maxRecDepth 100000 in
theorem dX10_night_87_g : dX10_night_87_l.all (fun x => decide (decode cX10_night x.1 = .ok x.2)) = true := by decide +kernel
set_option maxRecDepth 100000 in
theorem ggX10_learnt_X10_within : GoodIn wsX10_learnt wsX10_within := goodIn_sub (sub_c (nq_m (n := 6) rfl) sub_n) gw_X10_within
set_option maxRecDepth 100000 in
theorem gX10_learnt_X10_within : GoodIn wsX10_learnt (va_wsS RX10 67 yX10_within wsX10_within) := goodIn_app (goodIn_sub (sub_c (nq_m (n := 3) rfl) (sub_c (nq_m (n := 4) rfl) (sub_c (nq_m (n := 5) rfl) sub_n))) (by decide +kernel)) ggX10_learnt_X10_within
set_option maxRecDepth 100000 in
theorem gw_X6_oddsOf : wsX6_oddsOf.all goodWord = true := by decide +kernel
set_option maxRecDepth 100000 in
theorem ggX10_learnt_X6_oddsOf : GoodIn wsX10_learnt wsX6_oddsOf := goodIn_sub (sub_g [(11, [0]), (4, [0, 0, 21, 0])] rfl) gw_X6_oddsOf
set_option maxRecDepth 100000 in
theorem gX10_learnt_X6_oddsOf : GoodIn wsX10_learnt (wsV RX10 202 RX6 yX6_oddsOf wsX6_oddsOf) := goodIn_app (goodIn_sub (sub_c (nq_m (n := 7) rfl) (sub_c (nq_m (n := 8) rfl) (sub_c (nq_m (n := 9) rfl) (sub_c (nq_m (n := 10) rfl) sub_n)))) (by decide +kernel)) ggX10_learnt_X6_oddsOf
noncomputable def dX10_learnt_0_l : List (Nat × Instr × Nat) := [(0, .iload_n 1, 1), (1, .iconst 0, 1), (2, .iconst 3, 1), (3, .invokestatic 67, 3), (6, .ifCond .eq 12, 3), (9, .iload_n 2, 1), (10, .iconst 0, 1), (11, .iconst 1, 1), (12, .invokestatic 67, 3), (15, .ifCond .ne 7, 3), (18, .sipush (-1002), 3), (21, .ireturn, 1), (22, .iload_n 3, 1), (23, .iconst 0, 1), (24, .iconst 2, 1), (25, .invokestatic 67, 3), (28, .ifCond .ne 7, 3), (31, .sipush (-1002), 3), (34, .ireturn, 1), (35, .aload_n 0, 1), (36, .getfield 26, 3), (39, .getfield 138, 3), (42, .iload_n 1, 1), (43, .iload_n 2, 1), (44, .iload_n 3, 1), (45, .invokevirtual 202, 3), (48, .ireturn, 1)]
set_option maxRecDepth 100000 in
theorem dX10_learnt_0_g : dX10_learnt_0_l.all (fun x => decide (decode cX10_learnt x.1 = .ok x.2)) = true := by decide +kernel
set_option maxRecDepth 100000 in
theorem ggX10_tonight_X10_within : GoodIn wsX10_tonight wsX10_within := goodIn_sub (sub_c (nq_m (n := 6) rfl) sub_n) gw_X10_within
set_option maxRecDepth 100000 in
theorem gX10_tonight_X10_within : GoodIn wsX10_tonight (va_wsS RX10 67 yX10_within wsX10_within) := goodIn_app (goodIn_sub (sub_c (nq_m (n := 3) rfl) (sub_c (nq_m (n := 4) rfl) (sub_c (nq_m (n := 5) rfl) sub_n))) (by decide +kernel)) ggX10_tonight_X10_within
noncomputable def dX10_tonight_0_l : List (Nat × Instr × Nat) := [(0, .iload_n 1, 1), (1, .iconst (-1), 1), (2, .iconst 3, 1), (3, .invokestatic 67, 3), (6, .ifCond .eq 12, 3), (9, .iload_n 2, 1), (10, .iconst 0, 1), (11, .iconst 1, 1), (12, .invokestatic 67, 3), (15, .ifCond .ne 7, 3), (18, .sipush (-1002), 3), (21, .ireturn, 1), (22, .aload_n 0, 1), (23, .iload_n 1, 1), (24, .putfield 57, 3), (27, .aload_n 0, 1), (28, .iload_n 2, 1), (29, .putfield 61, 3), (32, .iconst 1, 1), (33, .ireturn, 1)]
set_option maxRecDepth 100000 in
theorem dX10_tonight_0_g : dX10_tonight_0_l.all (fun x => decide (decode cX10_tonight x.1 = .ok x.2)) = true := by decide +kernel
set_option maxRecDepth 100000 in
theorem gw_X10_isHand : wsX10_isHand.all goodWord = true := by decide +kernel
set_option maxRecDepth 100000 in
theorem ggX10_hang_X10_isHand : GoodIn wsX10_hang wsX10_isHand := goodIn_sub (sub_g [(10, [0, 0]), (9, [3])] rfl) gw_X10_isHand
set_option maxRecDepth 100000 in
theorem gX10_hang_X10_isHand : GoodIn wsX10_hang (va_wsS RX10 206 yX10_isHand wsX10_isHand) := goodIn_app (goodIn_sub (sub_c (nq_m (n := 7) rfl) (sub_c (nq_m (n := 8) rfl) (sub_c (nq_m (n := 9) rfl) sub_n))) (by decide +kernel)) ggX10_hang_X10_isHand
set_option maxRecDepth 100000 in
theorem ggX10_hang_X2_knows : GoodIn wsX10_hang wsX2_knows := goodIn_sub (sub_g [(18, [0, 79, 0, 0, 0, 0, 0, 0, 0])] rfl) gw_X2_knows
set_option maxRecDepth 100000 in
theorem gX10_hang_X2_knows : GoodIn wsX10_hang (wsV RX10 158 RX2 yX2_knows wsX2_knows) := goodIn_app (goodIn_sub (sub_c (nq_m (n := 14) rfl) (sub_c (nq_m (n := 15) rfl) (sub_c (nq_m (n := 16) rfl) (sub_c (nq_m (n := 17) rfl) sub_n)))) (by decide +kernel)) ggX10_hang_X2_knows
set_option maxRecDepth 100000 in
theorem ggX10_hang_X3_hasPeg : GoodIn wsX10_hang wsX3_hasPeg := goodIn_sub (sub_g [(24, [0, 81, 0, 0, 0, 0, 0, 0])] rfl) gw_X3_hasPeg
set_option maxRecDepth 100000 in
theorem gX10_hang_X3_hasPeg : GoodIn wsX10_hang (wsV RX10 105 RX3 yX3_hasPeg wsX3_hasPeg) := goodIn_app (goodIn_sub (sub_c (nq_m (n := 20) rfl) (sub_c (nq_m (n := 21) rfl) (sub_c (nq_m (n := 22) rfl) (sub_c (nq_m (n := 23) rfl) sub_n)))) (by decide +kernel)) ggX10_hang_X3_hasPeg
set_option maxRecDepth 100000 in
theorem ggX10_hang_X10_within : GoodIn wsX10_hang wsX10_within := goodIn_sub (sub_c (nq_m (n := 13) rfl) sub_n) gw_X10_within
set_option maxRecDepth 100000 in
theorem gX10_hang_X10_within : GoodIn wsX10_hang (va_wsS RX10 67 yX10_within wsX10_within) := goodIn_app (goodIn_sub (sub_c (nq_m (n := 11) rfl) (sub_c (nq_m (n := 12) rfl) (sub_c (nq_m (n := 9) rfl) sub_n))) (by decide +kernel)) ggX10_hang_X10_within
set_option maxRecDepth 100000 in
theorem gw_X10_mayHang : wsX10_mayHang.all goodWord = true := by decide +kernel
set_option maxRecDepth 100000 in
theorem ggX10_hang_X10_mayHang : GoodIn wsX10_hang wsX10_mayHang := goodIn_sub (sub_g [(29, []), (1, [2, 25]), (3, []), (2, [28, 0, 0, 0, 0, 0, 0, 0, 0, 0, 0, 0, 0, 0, 0]), (12, []), (9, [3, 32, 0, 0, 0, 0, 0, 0, 0, 0, 0]), (17, [38, 0, 0]), (15, [0, 1, 0, 39, 0, 0]), (23, [38, 0, 0]), (21, [0, 1, 0, 39, 0, 0, 0, 0, 14, 0, 0, 0, 0, 0, 0, 0, 0, 0, 0, 0, 0, 0, 0, 15, 0, 0, 0, 0, 0]), (99, [0, 0, 0, 0, 0, 0, 0, 0, 0, 0, 0, 0, 0, 0])] rfl) gw_X10_mayHang
set_option maxRecDepth 100000 in
theorem gX10_hang_X10_mayHang : GoodIn wsX10_hang (wsV RX10 209 RX10 yX10_mayHang wsX10_mayHang) := goodIn_app (goodIn_sub (sub_c (nq_m (n := 26) rfl) (sub_c (nq_m (n := 27) rfl) (sub_c (nq_m (n := 28) rfl) (sub_c (nq_m (n := 9) rfl) sub_n)))) (by decide +kernel)) ggX10_hang_X10_mayHang
set_option maxRecDepth 100000 in
theorem gw_X2_brassIsOut : wsX2_brassIsOut.all goodWord = true := by decide +kernel
set_option maxRecDepth 100000 in
theorem ggX10_hang_X2_brassIsOut : GoodIn wsX10_hang wsX2_brassIsOut := goodIn_sub (sub_g [(73, []), (19, [54, 24, 0, 0, 0, 0, 0, 0, 0])] rfl) gw_X2_brassIsOut
set_option maxRecDepth 100000 in
theorem gX10_hang_X2_brassIsOut : GoodIn wsX10_hang (wsV RX10 213 RX2 yX2_brassIsOut wsX2_brassIsOut) := goodIn_app (goodIn_sub (sub_c (nq_m (n := 70) rfl) (sub_c (nq_m (n := 71) rfl) (sub_c (nq_m (n := 72) rfl) (sub_c (nq_m (n := 17) rfl) sub_n)))) (by decide +kernel)) ggX10_hang_X2_brassIsOut
set_option maxRecDepth 100000 in
theorem ggX10_hang_X1_isFull : GoodIn wsX10_hang wsX1_isFull := goodIn_sub (sub_g [(78, []), (36, [77, 0])] rfl) gw_X1_isFull
set_option maxRecDepth 100000 in
theorem gX10_hang_X1_isFull : GoodIn wsX10_hang (wsV RX10 216 RX1 yX1_isFull wsX1_isFull) := goodIn_app (goodIn_sub (sub_c (nq_m (n := 75) rfl) (sub_c (nq_m (n := 76) rfl) (sub_c (nq_m (n := 77) rfl) (sub_c (nq_m (n := 34) rfl) sub_n)))) (by decide +kernel)) ggX10_hang_X1_isFull
set_option maxRecDepth 100000 in
theorem gw_X1_add : wsX1_add.all goodWord = true := by decide +kernel
set_option maxRecDepth 100000 in
theorem ggX10_hang_X1_add : GoodIn wsX10_hang wsX1_add := goodIn_sub (sub_g [(82, []), (36, [4, 41]), (76, [0]), (34, [43, 35, 0])] rfl) gw_X1_add
set_option maxRecDepth 100000 in
theorem gX10_hang_X1_add : GoodIn wsX10_hang (wsV RX10 220 RX1 yX1_add wsX1_add) := goodIn_app (goodIn_sub (sub_c (nq_m (n := 79) rfl) (sub_c (nq_m (n := 80) rfl) (sub_c (nq_m (n := 81) rfl) (sub_c (nq_m (n := 34) rfl) sub_n)))) (by decide +kernel)) ggX10_hang_X1_add
noncomputable def dX10_hang_0_l : List (Nat × Instr × Nat) := [(0, .iload_n 1, 1), (1, .invokestatic 206, 3), (4, .ifCond .eq 28, 3), (7, .aload_n 0, 1), (8, .getfield 26, 3), (11, .getfield 116, 3), (14, .iload_n 2, 1), (15, .invokevirtual 158, 3), (18, .ifCond .eq 14, 3), (21, .aload_n 0, 1), (22, .getfield 10, 3), (25, .iload_n 3, 1), (26, .invokevirtual 105, 3), (29, .ifCond .ne 7, 3), (32, .sipush (-1001), 3), (35, .ireturn, 1), (36, .iload 4, 2), (38, .iconst 0, 1), (39, .bipush 23, 2), (41, .invokestatic 67, 3), (44, .ifCond .ne 7, 3), (47, .sipush (-1002), 3), (50, .ireturn, 1), (51, .aload_n 0, 1), (52, .iload_n 2, 1), (53, .iload_n 3, 1), (54, .invokevirtual 209, 3), (57, .ifCond .eq 18, 3), (60, .aload_n 0, 1), (61, .getfield 26, 3), (64, .getfield 116, 3), (67, .iload 4, 2), (69, .invokevirtual 213, 3), (72, .ifCond .eq 7, 3), (75, .sipush (-1003), 3), (78, .ireturn, 1), (79, .aload_n 0, 1), (80, .getfield 26, 3), (83, .getfield 78, 3), (86, .invokevirtual 216, 3)]
set_option maxRecDepth 100000 in
theorem dX10_hang_0_g : dX10_hang_0_l.all (fun x => decide (decode cX10_hang x.1 = .ok x.2)) = true := by decide +kernel
noncomputable def dX10_hang_89_l : List (Nat × Instr × Nat) := [(89, .ifCond .eq 7, 3), (92, .sipush (-1004), 3), (95, .ireturn, 1), (96, .aload_n 0, 1), (97, .getfield 26, 3), (100, .getfield 116, 3), (103, .getfield 174, 3), (106, .iload_n 2, 1), (107, .iload_n 3, 1), (108, .iastore, 1), (109, .aload_n 0, 1), (110, .getfield 26, 3), (113, .getfield 116, 3), (116, .getfield 171, 3), (119, .iload_n 2, 1), (120, .iload 4, 2), (122, .iastore, 1), (123, .aload_n 0, 1), (124, .getfield 26, 3), (127, .getfield 78, 3), (130, .iconst 0, 1), (131, .iload_n 1, 1), (132, .iload_n 2, 1), (133, .iload_n 3, 1), (134, .iload 4, 2), (136, .iload_n 2, 1), (137, .invokevirtual 220, 3), (140, .ireturn, 1)]
set_option maxRecDepth 100000 in
theorem dX10_hang_89_g : dX10_hang_89_l.all (fun x => decide (decode cX10_hang x.1 = .ok x.2)) = true := by decide +kernel
set_option maxRecDepth 100000 in
theorem ggX10_give_X10_isHand : GoodIn wsX10_give wsX10_isHand := goodIn_sub (sub_g [(10, [0, 0]), (9, [3])] rfl) gw_X10_isHand
set_option maxRecDepth 100000 in
theorem gX10_give_X10_isHand : GoodIn wsX10_give (va_wsS RX10 206 yX10_isHand wsX10_isHand) := goodIn_app (goodIn_sub (sub_c (nq_m (n := 7) rfl) (sub_c (nq_m (n := 8) rfl) (sub_c (nq_m (n := 9) rfl) sub_n))) (by decide +kernel)) ggX10_give_X10_isHand
set_option maxRecDepth 100000 in
theorem ggX10_give_X2_knows : GoodIn wsX10_give wsX2_knows := goodIn_sub (sub_g [(18, [0, 44, 0, 0, 0, 0, 0, 0, 0])] rfl) gw_X2_knows
set_option maxRecDepth 100000 in
theorem gX10_give_X2_knows : GoodIn wsX10_give (wsV RX10 158 RX2 yX2_knows wsX2_knows) := goodIn_app (goodIn_sub (sub_c (nq_m (n := 14) rfl) (sub_c (nq_m (n := 15) rfl) (sub_c (nq_m (n := 16) rfl) (sub_c (nq_m (n := 17) rfl) sub_n)))) (by decide +kernel)) ggX10_give_X2_knows
set_option maxRecDepth 100000 in
theorem ggX10_give_X3_hasPeg : GoodIn wsX10_give wsX3_hasPeg := goodIn_sub (sub_g [(24, [0, 46, 0, 0, 0, 0, 0, 0])] rfl) gw_X3_hasPeg
set_option maxRecDepth 100000 in
theorem gX10_give_X3_hasPeg : GoodIn wsX10_give (wsV RX10 105 RX3 yX3_hasPeg wsX3_hasPeg) := goodIn_app (goodIn_sub (sub_c (nq_m (n := 20) rfl) (sub_c (nq_m (n := 21) rfl) (sub_c (nq_m (n := 22) rfl) (sub_c (nq_m (n := 23) rfl) sub_n)))) (by decide +kernel)) ggX10_give_X3_hasPeg
set_option maxRecDepth 100000 in
theorem ggX10_give_X2_ownerOn : GoodIn wsX10_give wsX2_ownerOn := goodIn_sub (sub_g [(29, []), (19, [10, 33, 0, 0, 0, 0, 0, 0, 0])] rfl) gw_X2_ownerOn
set_option maxRecDepth 100000 in
theorem gX10_give_X2_ownerOn : GoodIn wsX10_give (wsV RX10 120 RX2 yX2_ownerOn wsX2_ownerOn) := goodIn_app (goodIn_sub (sub_c (nq_m (n := 26) rfl) (sub_c (nq_m (n := 27) rfl) (sub_c (nq_m (n := 28) rfl) (sub_c (nq_m (n := 17) rfl) sub_n)))) (by decide +kernel)) ggX10_give_X2_ownerOn
set_option maxRecDepth 100000 in
theorem ggX10_give_X1_isFull : GoodIn wsX10_give wsX1_isFull := goodIn_sub (sub_g [(35, [0, 42, 0])] rfl) gw_X1_isFull
set_option maxRecDepth 100000 in
theorem gX10_give_X1_isFull : GoodIn wsX10_give (wsV RX10 216 RX1 yX1_isFull wsX1_isFull) := goodIn_app (goodIn_sub (sub_c (nq_m (n := 31) rfl) (sub_c (nq_m (n := 32) rfl) (sub_c (nq_m (n := 33) rfl) (sub_c (nq_m (n := 34) rfl) sub_n)))) (by decide +kernel)) ggX10_give_X1_isFull
set_option maxRecDepth 100000 in
theorem gw_X2_handOver : wsX2_handOver.all goodWord = true := by decide +kernel
set_option maxRecDepth 100000 in
theorem ggX10_give_X2_handOver : GoodIn wsX10_give wsX2_handOver := goodIn_sub (sub_g [(40, []), (30, [10, 0]), (15, [0, 0, 0, 0, 44, 0, 0, 0, 0, 0, 0, 0])] rfl) gw_X2_handOver
set_option maxRecDepth 100000 in
theorem gX10_give_X2_handOver : GoodIn wsX10_give (wsV RX10 223 RX2 yX2_handOver wsX2_handOver) := goodIn_app (goodIn_sub (sub_c (nq_m (n := 37) rfl) (sub_c (nq_m (n := 38) rfl) (sub_c (nq_m (n := 39) rfl) (sub_c (nq_m (n := 17) rfl) sub_n)))) (by decide +kernel)) ggX10_give_X2_handOver
set_option maxRecDepth 100000 in
theorem ggX10_give_X1_add : GoodIn wsX10_give wsX1_add := goodIn_sub (sub_g [(46, []), (36, [10, 0]), (32, [0, 0, 0, 43, 0])] rfl) gw_X1_add
set_option maxRecDepth 100000 in
theorem gX10_give_X1_add : GoodIn wsX10_give (wsV RX10 220 RX1 yX1_add wsX1_add) := goodIn_app (goodIn_sub (sub_c (nq_m (n := 43) rfl) (sub_c (nq_m (n := 44) rfl) (sub_c (nq_m (n := 45) rfl) (sub_c (nq_m (n := 34) rfl) sub_n)))) (by decide +kernel)) ggX10_give_X1_add
noncomputable def dX10_give_0_l : List (Nat × Instr × Nat) := [(0, .aload_n 0, 1), (1, .getfield 26, 3), (4, .getfield 116, 3), (7, .astore 4, 2), (9, .iload_n 1, 1), (10, .invokestatic 206, 3), (13, .ifCond .eq 23, 3), (16, .aload 4, 2), (18, .iload_n 2, 1), (19, .invokevirtual 158, 3), (22, .ifCond .eq 14, 3), (25, .aload_n 0, 1), (26, .getfield 10, 3), (29, .iload_n 3, 1), (30, .invokevirtual 105, 3), (33, .ifCond .ne 7, 3), (36, .sipush (-1001), 3), (39, .ireturn, 1), (40, .aload 4, 2), (42, .iload_n 3, 1), (43, .invokevirtual 120, 3), (46, .istore 5, 2), (48, .aload 4, 2), (50, .getfield 171, 3), (53, .iload_n 2, 1), (54, .iaload, 1), (55, .iconst (-1), 1), (56, .if_icmp .eq 20, 3), (59, .aload 4, 2), (61, .getfield 180, 3), (64, .iload_n 2, 1), (65, .iaload, 1), (66, .iconst (-1), 1), (67, .if_icmp .ne 9, 3), (70, .iload 5, 2), (72, .iconst (-1), 1), (73, .if_icmp .ne 7, 3), (76, .sipush (-1003), 3), (79, .ireturn, 1), (80, .aload_n 0, 1)]
set_option maxRecDepth 100000 in
theorem dX10_give_0_g : dX10_give_0_l.all (fun x => decide (decode cX10_give x.1 = .ok x.2)) = true := by decide +kernel
noncomputable def dX10_give_81_l : List (Nat × Instr × Nat) := [(81, .getfield 26, 3), (84, .getfield 78, 3), (87, .invokevirtual 216, 3), (90, .ifCond .eq 7, 3), (93, .sipush (-1004), 3), (96, .ireturn, 1), (97, .aload 4, 2), (99, .getfield 171, 3), (102, .iload_n 2, 1), (103, .iaload, 1), (104, .istore 6, 2), (106, .aload 4, 2), (108, .getfield 171, 3), (111, .iload_n 2, 1), (112, .iconst (-1), 1), (113, .iastore, 1), (114, .aload 4, 2), (116, .iload 5, 2), (118, .iload_n 2, 1), (119, .invokevirtual 223, 3), (122, .aload_n 0, 1), (123, .getfield 26, 3), (126, .getfield 78, 3), (129, .iconst 1, 1), (130, .iload_n 1, 1), (131, .iload_n 2, 1), (132, .iload_n 3, 1), (133, .iload 6, 2), (135, .iload 5, 2), (137, .invokevirtual 220, 3), (140, .ireturn, 1)]
set_option maxRecDepth 100000 in
theorem dX10_give_81_g : dX10_give_81_l.all (fun x => decide (decode cX10_give x.1 = .ok x.2)) = true := by decide +kernel
set_option maxRecDepth 100000 in
theorem ggX10_lose_X2_knows : GoodIn wsX10_lose wsX2_knows := goodIn_sub (sub_g [(9, [0, 27, 0, 0, 0, 0, 0, 0, 0])] rfl) gw_X2_knows
set_option maxRecDepth 100000 in
theorem gX10_lose_X2_knows : GoodIn wsX10_lose (wsV RX10 158 RX2 yX2_knows wsX2_knows) := goodIn_app (goodIn_sub (sub_c (nq_m (n := 5) rfl) (sub_c (nq_m (n := 6) rfl) (sub_c (nq_m (n := 7) rfl) (sub_c (nq_m (n := 8) rfl) sub_n)))) (by decide +kernel)) ggX10_lose_X2_knows
set_option maxRecDepth 100000 in
theorem ggX10_lose_X1_isFull : GoodIn wsX10_lose wsX1_isFull := goodIn_sub (sub_g [(15, [0, 29, 0])] rfl) gw_X1_isFull
set_option maxRecDepth 100000 in
theorem gX10_lose_X1_isFull : GoodIn wsX10_lose (wsV RX10 216 RX1 yX1_isFull wsX1_isFull) := goodIn_app (goodIn_sub (sub_c (nq_m (n := 11) rfl) (sub_c (nq_m (n := 12) rfl) (sub_c (nq_m (n := 13) rfl) (sub_c (nq_m (n := 14) rfl) sub_n)))) (by decide +kernel)) ggX10_lose_X1_isFull
set_option maxRecDepth 100000 in
theorem ggX10_lose_X1_add : GoodIn wsX10_lose wsX1_add := goodIn_sub (sub_g [(20, []), (16, [4, 0]), (12, [0, 0, 0, 30, 0])] rfl) gw_X1_add
set_option maxRecDepth 100000 in
theorem gX10_lose_X1_add : GoodIn wsX10_lose (wsV RX10 220 RX1 yX1_add wsX1_add) := goodIn_app (goodIn_sub (sub_c (nq_m (n := 17) rfl) (sub_c (nq_m (n := 18) rfl) (sub_c (nq_m (n := 19) rfl) (sub_c (nq_m (n := 14) rfl) sub_n)))) (by decide +kernel)) ggX10_lose_X1_add
noncomputable def dX10_lose_0_l : List (Nat × Instr × Nat) := [(0, .aload_n 0, 1), (1, .getfield 26, 3), (4, .getfield 116, 3), (7, .iload_n 1, 1), (8, .invokevirtual 158, 3), (11, .ifCond .ne 7, 3), (14, .sipush (-1001), 3), (17, .ireturn, 1), (18, .aload_n 0, 1), (19, .getfield 26, 3), (22, .getfield 116, 3), (25, .getfield 171, 3), (28, .iload_n 1, 1), (29, .iaload, 1), (30, .istore_n 2, 1), (31, .iload_n 2, 1), (32, .iconst (-1), 1), (33, .if_icmp .ne 7, 3), (36, .sipush (-1003), 3), (39, .ireturn, 1), (40, .aload_n 0, 1), (41, .getfield 26, 3), (44, .getfield 78, 3), (47, .invokevirtual 216, 3), (50, .ifCond .eq 7, 3), (53, .sipush (-1004), 3), (56, .ireturn, 1), (57, .aload_n 0, 1), (58, .getfield 26, 3), (61, .getfield 116, 3), (64, .getfield 171, 3), (67, .iload_n 1, 1), (68, .iconst (-1), 1), (69, .iastore, 1), (70, .aload_n 0, 1), (71, .getfield 26, 3), (74, .getfield 78, 3), (77, .iconst 2, 1), (78, .iconst (-1), 1), (79, .iload_n 1, 1)]
set_option maxRecDepth 100000 in
theorem dX10_lose_0_g : dX10_lose_0_l.all (fun x => decide (decode cX10_lose x.1 = .ok x.2)) = true := by decide +kernel
noncomputable def dX10_lose_80_l : List (Nat × Instr × Nat) := [(80, .iconst (-1), 1), (81, .iload_n 2, 1), (82, .iconst (-1), 1), (83, .invokevirtual 220, 3), (86, .ireturn, 1)]
set_option maxRecDepth 100000 in
theorem dX10_lose_80_g : dX10_lose_80_l.all (fun x => decide (decode cX10_lose x.1 = .ok x.2)) = true := by decide +kernel
set_option maxRecDepth 100000 in
theorem ggX10_event_X1_knows : GoodIn wsX10_event wsX1_knows := goodIn_sub (sub_g [(7, [0, 25, 0])] rfl) gw_X1_knows
set_option maxRecDepth 100000 in
theorem gX10_event_X1_knows : GoodIn wsX10_event (wsV RX10 227 RX1 yX1_knows wsX1_knows) := goodIn_app (goodIn_sub (sub_c (nq_m (n := 3) rfl) (sub_c (nq_m (n := 4) rfl) (sub_c (nq_m (n := 5) rfl) (sub_c (nq_m (n := 6) rfl) sub_n)))) (by decide +kernel)) ggX10_event_X1_knows
set_option maxRecDepth 100000 in
theorem ggX10_event_X10_within : GoodIn wsX10_event wsX10_within := goodIn_sub (sub_c (nq_m (n := 12) rfl) sub_n) gw_X10_within
set_option maxRecDepth 100000 in
theorem gX10_event_X10_within : GoodIn wsX10_event (va_wsS RX10 67 yX10_within wsX10_within) := goodIn_app (goodIn_sub (sub_c (nq_m (n := 9) rfl) (sub_c (nq_m (n := 10) rfl) (sub_c (nq_m (n := 11) rfl) sub_n))) (by decide +kernel)) ggX10_event_X10_within
set_option maxRecDepth 100000 in
theorem ggX10_event_X1_factOf : GoodIn wsX10_event wsX1_factOf := goodIn_sub (sub_g [(16, [0, 0]), (4, [0, 0, 0, 0, 1, 0, 0, 21, 0])] rfl) gw_X1_factOf
set_option maxRecDepth 100000 in
theorem gX10_event_X1_factOf : GoodIn wsX10_event (wsV RX10 228 RX1 yX1_factOf wsX1_factOf) := goodIn_app (goodIn_sub (sub_c (nq_m (n := 13) rfl) (sub_c (nq_m (n := 14) rfl) (sub_c (nq_m (n := 15) rfl) (sub_c (nq_m (n := 6) rfl) sub_n)))) (by decide +kernel)) ggX10_event_X1_factOf
noncomputable def dX10_event_0_l : List (Nat × Instr × Nat) := [(0, .aload_n 0, 1), (1, .getfield 26, 3), (4, .getfield 78, 3), (7, .iload_n 1, 1), (8, .invokevirtual 227, 3), (11, .ifCond .ne 7, 3), (14, .sipush (-1001), 3), (17, .ireturn, 1), (18, .iload_n 2, 1), (19, .iconst 0, 1), (20, .bipush 6, 2), (22, .invokestatic 67, 3), (25, .ifCond .ne 7, 3), (28, .sipush (-1002), 3), (31, .ireturn, 1), (32, .aload_n 0, 1), (33, .getfield 26, 3), (36, .getfield 78, 3), (39, .iload_n 1, 1), (40, .iload_n 2, 1), (41, .invokevirtual 228, 3), (44, .ireturn, 1)]
set_option maxRecDepth 100000 in
theorem dX10_event_0_g : dX10_event_0_l.all (fun x => decide (decode cX10_event x.1 = .ok x.2)) = true := by decide +kernel
set_option maxRecDepth 100000 in
theorem ggX10_astray_X2_isAstray : GoodIn wsX10_astray wsX2_isAstray := goodIn_sub (sub_g [(8, [0, 0, 0, 0]), (7, [5, 0, 15, 0, 0, 0, 0, 0, 0, 0])] rfl) gw_X2_isAstray
set_option maxRecDepth 100000 in
theorem gX10_astray_X2_isAstray : GoodIn wsX10_astray (wsV RX10 231 RX2 yX2_isAstray wsX2_isAstray) := goodIn_app (goodIn_sub (sub_c (nq_m (n := 4) rfl) (sub_c (nq_m (n := 5) rfl) (sub_c (nq_m (n := 6) rfl) (sub_c (nq_m (n := 7) rfl) sub_n)))) (by decide +kernel)) ggX10_astray_X2_isAstray
noncomputable def dX10_astray_0_l : List (Nat × Instr × Nat) := [(0, .iconst 0, 1), (1, .istore_n 1, 1), (2, .iconst 0, 1), (3, .istore_n 2, 1), (4, .iload_n 2, 1), (5, .aload_n 0, 1), (6, .getfield 26, 3), (9, .getfield 116, 3), (12, .getfield 130, 3), (15, .if_icmp .ge 29, 3), (18, .aload_n 0, 1), (19, .getfield 26, 3), (22, .getfield 116, 3), (25, .iload_n 2, 1), (26, .invokevirtual 231, 3), (29, .ifCond .eq 9, 3), (32, .iload_n 1, 1), (33, .iconst 1, 1), (34, .iload_n 2, 1), (35, .ishl, 1), (36, .ior, 1), (37, .istore_n 1, 1), (38, .iinc 2 1, 3), (41, .goto (-37), 3), (44, .iload_n 1, 1), (45, .ireturn, 1)]
set_option maxRecDepth 100000 in
theorem dX10_astray_0_g : dX10_astray_0_l.all (fun x => decide (decode cX10_astray x.1 = .ok x.2)) = true := by decide +kernel
set_option maxRecDepth 100000 in
theorem ggX10_chain_X2_knows : GoodIn wsX10_chain wsX2_knows := goodIn_sub (sub_g [(7, [0, 33, 0, 0, 0, 0, 0, 0, 0])] rfl) gw_X2_knows
set_option maxRecDepth 100000 in
theorem gX10_chain_X2_knows : GoodIn wsX10_chain (wsV RX10 158 RX2 yX2_knows wsX2_knows) := goodIn_app (goodIn_sub (sub_c (nq_m (n := 3) rfl) (sub_c (nq_m (n := 4) rfl) (sub_c (nq_m (n := 5) rfl) (sub_c (nq_m (n := 6) rfl) sub_n)))) (by decide +kernel)) ggX10_chain_X2_knows
set_option maxRecDepth 100000 in
theorem ggX10_chain_X2_isAstray : GoodIn wsX10_chain wsX2_isAstray := goodIn_sub (sub_g [(12, [0, 0]), (4, [0, 0, 0, 0, 33, 0, 0, 0, 0, 0, 0, 0])] rfl) gw_X2_isAstray
set_option maxRecDepth 100000 in
theorem gX10_chain_X2_isAstray : GoodIn wsX10_chain (wsV RX10 231 RX2 yX2_isAstray wsX2_isAstray) := goodIn_app (goodIn_sub (sub_c (nq_m (n := 9) rfl) (sub_c (nq_m (n := 10) rfl) (sub_c (nq_m (n := 11) rfl) (sub_c (nq_m (n := 6) rfl) sub_n)))) (by decide +kernel)) ggX10_chain_X2_isAstray
set_option maxRecDepth 100000 in
theorem ggX10_chain_X2_chainLength : GoodIn wsX10_chain wsX2_chainLength := goodIn_sub (sub_g [(18, [0, 0, 0]), (6, [15]), (13, [0]), (4, [0, 1, 0, 33, 0, 0, 0, 0, 0, 0, 0])] rfl) gw_X2_chainLength
set_option maxRecDepth 100000 in
theorem gX10_chain_X2_chainLength : GoodIn wsX10_chain (wsV RX10 234 RX2 yX2_chainLength wsX2_chainLength) := goodIn_app (goodIn_sub (sub_c (nq_m (n := 15) rfl) (sub_c (nq_m (n := 16) rfl) (sub_c (nq_m (n := 17) rfl) (sub_c (nq_m (n := 6) rfl) sub_n)))) (by decide +kernel)) ggX10_chain_X2_chainLength
set_option maxRecDepth 100000 in
theorem ggX10_chain_X2_chainMember : GoodIn wsX10_chain wsX2_chainMember := goodIn_sub (sub_g [(26, []), (19, [0, 0]), (6, [15]), (13, [0]), (4, [0, 1, 0, 33, 0, 0, 0, 0, 0, 0, 0])] rfl) gw_X2_chainMember
set_option maxRecDepth 100000 in
theorem gX10_chain_X2_chainMember : GoodIn wsX10_chain (wsV RX10 237 RX2 yX2_chainMember wsX2_chainMember) := goodIn_app (goodIn_sub (sub_c (nq_m (n := 23) rfl) (sub_c (nq_m (n := 24) rfl) (sub_c (nq_m (n := 25) rfl) (sub_c (nq_m (n := 6) rfl) sub_n)))) (by decide +kernel)) ggX10_chain_X2_chainMember
noncomputable def dX10_chain_0_l : List (Nat × Instr × Nat) := [(0, .aload_n 0, 1), (1, .getfield 26, 3), (4, .getfield 116, 3), (7, .iload_n 1, 1), (8, .invokevirtual 158, 3), (11, .ifCond .ne 7, 3), (14, .sipush (-1001), 3), (17, .ireturn, 1), (18, .aload_n 0, 1), (19, .getfield 26, 3), (22, .getfield 116, 3), (25, .iload_n 1, 1), (26, .invokevirtual 231, 3), (29, .ifCond .ne 7, 3), (32, .sipush (-1003), 3), (35, .ireturn, 1), (36, .iload_n 2, 1), (37, .iconst (-1), 1), (38, .if_icmp .ne 17, 3), (41, .aload_n 0, 1), (42, .getfield 26, 3), (45, .getfield 116, 3), (48, .iload_n 1, 1), (49, .invokevirtual 234, 3), (52, .goto 15, 3), (55, .aload_n 0, 1), (56, .getfield 26, 3), (59, .getfield 116, 3), (62, .iload_n 1, 1), (63, .iload_n 2, 1), (64, .invokevirtual 237, 3), (67, .ireturn, 1)]
set_option maxRecDepth 100000 in
theorem dX10_chain_0_g : dX10_chain_0_l.all (fun x => decide (decode cX10_chain x.1 = .ok x.2)) = true := by decide +kernel
set_option maxRecDepth 100000 in
theorem ggX10_ring_X2_knows : GoodIn wsX10_ring wsX2_knows := goodIn_sub (sub_g [(7, [0, 37, 0, 0, 0, 0, 0, 0, 0])] rfl) gw_X2_knows
set_option maxRecDepth 100000 in
theorem gX10_ring_X2_knows : GoodIn wsX10_ring (wsV RX10 158 RX2 yX2_knows wsX2_knows) := goodIn_app (goodIn_sub (sub_c (nq_m (n := 3) rfl) (sub_c (nq_m (n := 4) rfl) (sub_c (nq_m (n := 5) rfl) (sub_c (nq_m (n := 6) rfl) sub_n)))) (by decide +kernel)) ggX10_ring_X2_knows
set_option maxRecDepth 100000 in
theorem ggX10_ring_X2_isAstray : GoodIn wsX10_ring wsX2_isAstray := goodIn_sub (sub_g [(12, [0, 0]), (4, [0, 0, 0, 0, 37, 0, 0, 0, 0, 0, 0, 0])] rfl) gw_X2_isAstray
set_option maxRecDepth 100000 in
theorem gX10_ring_X2_isAstray : GoodIn wsX10_ring (wsV RX10 231 RX2 yX2_isAstray wsX2_isAstray) := goodIn_app (goodIn_sub (sub_c (nq_m (n := 9) rfl) (sub_c (nq_m (n := 10) rfl) (sub_c (nq_m (n := 11) rfl) (sub_c (nq_m (n := 6) rfl) sub_n)))) (by decide +kernel)) ggX10_ring_X2_isAstray
set_option maxRecDepth 100000 in
theorem ggX10_ring_X2_comesRound : GoodIn wsX10_ring wsX2_comesRound := goodIn_sub (sub_g [(18, []), (13, [5, 0, 0]), (6, [15, 0, 0, 0, 0]), (14, []), (4, [0, 1, 0, 18, 0, 0, 0, 15, 0, 0, 0, 0, 0, 0, 0])] rfl) gw_X2_comesRound
set_option maxRecDepth 100000 in
theorem gX10_ring_X2_comesRound : GoodIn wsX10_ring (wsV RX10 240 RX2 yX2_comesRound wsX2_comesRound) := goodIn_app (goodIn_sub (sub_c (nq_m (n := 15) rfl) (sub_c (nq_m (n := 16) rfl) (sub_c (nq_m (n := 17) rfl) (sub_c (nq_m (n := 6) rfl) sub_n)))) (by decide +kernel)) ggX10_ring_X2_comesRound
noncomputable def dX10_ring_0_l : List (Nat × Instr × Nat) := [(0, .aload_n 0, 1), (1, .getfield 26, 3), (4, .getfield 116, 3), (7, .iload_n 1, 1), (8, .invokevirtual 158, 3), (11, .ifCond .ne 7, 3), (14, .sipush (-1001), 3), (17, .ireturn, 1), (18, .aload_n 0, 1), (19, .getfield 26, 3), (22, .getfield 116, 3), (25, .iload_n 1, 1), (26, .invokevirtual 231, 3), (29, .ifCond .ne 7, 3), (32, .sipush (-1003), 3), (35, .ireturn, 1), (36, .aload_n 0, 1), (37, .getfield 26, 3), (40, .getfield 116, 3), (43, .iload_n 1, 1), (44, .invokevirtual 240, 3), (47, .ifCond .eq 7, 3), (50, .iconst 1, 1), (51, .goto 4, 3), (54, .iconst 0, 1), (55, .ireturn, 1)]
set_option maxRecDepth 100000 in
theorem dX10_ring_0_g : dX10_ring_0_l.all (fun x => decide (decode cX10_ring x.1 = .ok x.2)) = true := by decide +kernel
set_option maxRecDepth 100000 in
theorem ggX10_exchanges_X2_isAstray : GoodIn wsX10_exchanges wsX2_isAstray := goodIn_sub (sub_g [(8, [0, 0, 0, 0]), (7, [5, 0, 36, 0, 0, 0, 0, 0, 0, 0])] rfl) gw_X2_isAstray
set_option maxRecDepth 100000 in
theorem gX10_exchanges_X2_isAstray : GoodIn wsX10_exchanges (wsV RX10 231 RX2 yX2_isAstray wsX2_isAstray) := goodIn_app (goodIn_sub (sub_c (nq_m (n := 4) rfl) (sub_c (nq_m (n := 5) rfl) (sub_c (nq_m (n := 6) rfl) (sub_c (nq_m (n := 7) rfl) sub_n)))) (by decide +kernel)) ggX10_exchanges_X2_isAstray
set_option maxRecDepth 100000 in
theorem gw_X2_isLeastOfRing : wsX2_isLeastOfRing.all goodWord = true := by decide +kernel
set_option maxRecDepth 100000 in
theorem ggX10_exchanges_X2_isLeastOfRing : GoodIn wsX10_exchanges wsX2_isLeastOfRing := goodIn_sub (sub_g [(18, [0]), (5, [0, 0, 0, 0, 0, 0, 0, 0, 0, 5, 0, 0, 0, 0, 0, 0, 0, 0, 0, 0, 0, 0, 0, 0, 0, 15, 0, 0, 0, 0, 0, 0, 0])] rfl) gw_X2_isLeastOfRing
set_option maxRecDepth 100000 in
theorem gX10_exchanges_X2_isLeastOfRing : GoodIn wsX10_exchanges (wsV RX10 243 RX2 yX2_isLeastOfRing wsX2_isLeastOfRing) := goodIn_app (goodIn_sub (sub_c (nq_m (n := 15) rfl) (sub_c (nq_m (n := 16) rfl) (sub_c (nq_m (n := 17) rfl) (sub_c (nq_m (n := 7) rfl) sub_n)))) (by decide +kernel)) ggX10_exchanges_X2_isLeastOfRing
noncomputable def dX10_exchanges_0_l : List (Nat × Instr × Nat) := [(0, .iconst 0, 1), (1, .istore_n 1, 1), (2, .iconst 0, 1), (3, .istore_n 2, 1), (4, .iload_n 2, 1), (5, .aload_n 0, 1), (6, .getfield 26, 3), (9, .getfield 116, 3), (12, .getfield 130, 3), (15, .if_icmp .ge 43, 3), (18, .aload_n 0, 1), (19, .getfield 26, 3), (22, .getfield 116, 3), (25, .iload_n 2, 1), (26, .invokevirtual 231, 3), (29, .ifCond .eq 6, 3), (32, .iinc 1 1, 3), (35, .aload_n 0, 1), (36, .getfield 26, 3), (39, .getfield 116, 3), (42, .iload_n 2, 1), (43, .invokevirtual 243, 3), (46, .ifCond .eq 6, 3), (49, .iinc 1 (-1), 3), (52, .iinc 2 1, 3), (55, .goto (-51), 3), (58, .iload_n 1, 1), (59, .ireturn, 1)]
set_option maxRecDepth 100000 in
theorem dX10_exchanges_0_g : dX10_exchanges_0_l.all (fun x => decide (decode cX10_exchanges x.1 = .ok x.2)) = true := by decide +kernel
set_option maxRecDepth 100000 in
theorem ggX10_wrong_X2_knows : GoodIn wsX10_wrong wsX2_knows := goodIn_sub (sub_g [(8, [0, 43, 0, 0, 0, 0, 0, 0, 0])] rfl) gw_X2_knows
set_option maxRecDepth 100000 in
theorem gX10_wrong_X2_knows : GoodIn wsX10_wrong (wsV RX10 158 RX2 yX2_knows wsX2_knows) := goodIn_app (goodIn_sub (sub_c (nq_m (n := 4) rfl) (sub_c (nq_m (n := 5) rfl) (sub_c (nq_m (n := 6) rfl) (sub_c (nq_m (n := 7) rfl) sub_n)))) (by decide +kernel)) ggX10_wrong_X2_knows
set_option maxRecDepth 100000 in
theorem ggX10_wrong_X10_within : GoodIn wsX10_wrong wsX10_within := goodIn_sub (sub_c (nq_m (n := 13) rfl) sub_n) gw_X10_within
set_option maxRecDepth 100000 in
theorem gX10_wrong_X10_within : GoodIn wsX10_wrong (va_wsS RX10 67 yX10_within wsX10_within) := goodIn_app (goodIn_sub (sub_c (nq_m (n := 10) rfl) (sub_c (nq_m (n := 11) rfl) (sub_c (nq_m (n := 12) rfl) sub_n))) (by decide +kernel)) ggX10_wrong_X10_within
set_option maxRecDepth 100000 in
theorem gw_X1_firstWrong : wsX1_firstWrong.all goodWord = true := by decide +kernel
set_option maxRecDepth 100000 in
theorem ggX10_wrong_X1_firstWrong : GoodIn wsX10_wrong wsX1_firstWrong := goodIn_sub (sub_g [(18, [0, 0, 0]), (17, [4, 0, 0, 0, 0, 0, 0, 0, 0, 0, 0]), (11, [0, 0, 19, 0, 0, 0, 24, 0])] rfl) gw_X1_firstWrong
set_option maxRecDepth 100000 in
theorem gX10_wrong_X1_firstWrong : GoodIn wsX10_wrong (wsV RX10 246 RX1 yX1_firstWrong wsX1_firstWrong) := goodIn_app (goodIn_sub (sub_c (nq_m (n := 14) rfl) (sub_c (nq_m (n := 15) rfl) (sub_c (nq_m (n := 16) rfl) (sub_c (nq_m (n := 17) rfl) sub_n)))) (by decide +kernel)) ggX10_wrong_X1_firstWrong
set_option maxRecDepth 100000 in
theorem ggX10_wrong_X1_factOf : GoodIn wsX10_wrong wsX1_factOf := goodIn_sub (sub_g [(27, [0, 0, 0, 0]), (17, [14]), (23, []), (11, [0, 0, 47, 0])] rfl) gw_X1_factOf
set_option maxRecDepth 100000 in
theorem gX10_wrong_X1_factOf : GoodIn wsX10_wrong (wsV RX10 228 RX1 yX1_factOf wsX1_factOf) := goodIn_app (goodIn_sub (sub_c (nq_m (n := 37) rfl) (sub_c (nq_m (n := 25) rfl) (sub_c (nq_m (n := 26) rfl) (sub_c (nq_m (n := 17) rfl) sub_n)))) (by decide +kernel)) ggX10_wrong_X1_factOf
noncomputable def dX10_wrong_0_l : List (Nat × Instr × Nat) := [(0, .aload_n 0, 1), (1, .getfield 26, 3), (4, .getfield 116, 3), (7, .iload_n 1, 1), (8, .invokevirtual 158, 3), (11, .ifCond .ne 7, 3), (14, .sipush (-1001), 3), (17, .ireturn, 1), (18, .iload_n 2, 1), (19, .iconst 0, 1), (20, .iconst 1, 1), (21, .invokestatic 67, 3), (24, .ifCond .ne 7, 3), (27, .sipush (-1002), 3), (30, .ireturn, 1), (31, .aload_n 0, 1), (32, .getfield 26, 3), (35, .getfield 78, 3), (38, .iload_n 1, 1), (39, .invokevirtual 246, 3), (42, .istore_n 3, 1), (43, .iload_n 2, 1), (44, .ifCond .ne 18, 3), (47, .aload_n 0, 1), (48, .getfield 26, 3), (51, .getfield 78, 3), (54, .iload_n 3, 1), (55, .iconst 1, 1), (56, .invokevirtual 228, 3), (59, .goto 4, 3), (62, .iload_n 3, 1), (63, .ireturn, 1)]
set_option maxRecDepth 100000 in
theorem dX10_wrong_0_g : dX10_wrong_0_l.all (fun x => decide (decode cX10_wrong x.1 = .ok x.2)) = true := by decide +kernel
set_option maxRecDepth 100000 in
theorem gw_X10_allHang : wsX10_allHang.all goodWord = true := by decide +kernel
set_option maxRecDepth 100000 in
theorem ggX10_rush_X10_allHang : GoodIn wsX10_rush wsX10_allHang := goodIn_sub (sub_g [(9, []), (2, [0, 6, 0, 0, 0, 0, 0, 0, 0, 0, 0, 0, 0, 57, 0, 0, 0, 0, 0, 0, 0, 0, 0, 0, 0, 0, 0, 0, 0, 0, 0, 0, 0, 0, 0, 0])] rfl) gw_X10_allHang
set_option maxRecDepth 100000 in
theorem gX10_rush_X10_allHang : GoodIn wsX10_rush (wsV RX10 249 RX10 yX10_allHang wsX10_allHang) := goodIn_app (goodIn_sub (sub_c (nq_m (n := 5) rfl) (sub_c (nq_m (n := 6) rfl) (sub_c (nq_m (n := 7) rfl) (sub_c (nq_m (n := 8) rfl) sub_n)))) (by decide +kernel)) ggX10_rush_X10_allHang
set_option maxRecDepth 100000 in
theorem ggX10_rush_X10_within : GoodIn wsX10_rush wsX10_within := goodIn_sub (sub_c (nq_m (n := 24) rfl) sub_n) gw_X10_within
set_option maxRecDepth 100000 in
theorem gX10_rush_X10_within : GoodIn wsX10_rush (va_wsS RX10 67 yX10_within wsX10_within) := goodIn_app (goodIn_sub (sub_c (nq_m (n := 22) rfl) (sub_c (nq_m (n := 23) rfl) (sub_c (nq_m (n := 8) rfl) sub_n))) (by decide +kernel)) ggX10_rush_X10_within
set_option maxRecDepth 100000 in
theorem gw_X9_load : wsX9_load.all goodWord = true := by decide +kernel
set_option maxRecDepth 100000 in
theorem ggX10_rush_X9_load : GoodIn wsX10_rush wsX9_load := goodIn_sub (sub_g [(29, [0, 0, 0, 0, 0, 0, 0, 0, 0, 0, 0, 0, 0, 0, 0, 0, 0, 0, 0, 0, 0, 51, 0, 0, 0, 0, 0, 0, 0, 0, 0, 0, 0, 0, 0, 0, 0, 0, 0, 0]), (94, [0, 0, 0, 0, 0, 0, 0])] rfl) gw_X9_load
set_option maxRecDepth 100000 in
theorem gX10_rush_X9_load : GoodIn wsX10_rush (wsV RX10 252 RX9 yX9_load wsX9_load) := goodIn_app (goodIn_sub (sub_c (nq_m (n := 25) rfl) (sub_c (nq_m (n := 26) rfl) (sub_c (nq_m (n := 27) rfl) (sub_c (nq_m (n := 28) rfl) sub_n)))) (by decide +kernel)) ggX10_rush_X9_load
set_option maxRecDepth 100000 in
theorem ggX10_rush_X9_serveFrom : GoodIn wsX10_rush wsX9_serveFrom := goodIn_sub (sub_g [(54, []), (30, [24, 0, 0]), (28, [29, 0]), (39, []), (34, [25, 0, 0, 0, 0, 0, 0]), (37, []), (32, []), (23, []), (8, [15, 77, 0, 0, 0, 0, 0, 0, 0, 0, 0, 0, 0])] rfl) gw_X9_serveFrom
set_option maxRecDepth 100000 in
theorem gX10_rush_X9_serveFrom : GoodIn wsX10_rush (wsV RX10 256 RX9 yX9_serveFrom wsX9_serveFrom) := goodIn_app (goodIn_sub (sub_c (nq_m (n := 51) rfl) (sub_c (nq_m (n := 52) rfl) (sub_c (nq_m (n := 53) rfl) (sub_c (nq_m (n := 28) rfl) sub_n)))) (by decide +kernel)) ggX10_rush_X9_serveFrom
set_option maxRecDepth 100000 in
theorem ggX10_rush_X9_sumOfWaits : GoodIn wsX10_rush wsX9_sumOfWaits := goodIn_sub (sub_g [(70, []), (60, []), (30, [71, 0, 0, 0, 0, 0, 0, 0, 0, 0, 0, 0])] rfl) gw_X9_sumOfWaits
set_option maxRecDepth 100000 in
theorem gX10_rush_X9_sumOfWaits : GoodIn wsX10_rush (wsV RX10 259 RX9 yX9_sumOfWaits wsX9_sumOfWaits) := goodIn_app (goodIn_sub (sub_c (nq_m (n := 67) rfl) (sub_c (nq_m (n := 68) rfl) (sub_c (nq_m (n := 69) rfl) (sub_c (nq_m (n := 28) rfl) sub_n)))) (by decide +kernel)) ggX10_rush_X9_sumOfWaits
set_option maxRecDepth 100000 in
theorem gw_X9_greatestWait : wsX9_greatestWait.all goodWord = true := by decide +kernel
set_option maxRecDepth 100000 in
theorem ggX10_rush_X9_greatestWait : GoodIn wsX10_rush wsX9_greatestWait := goodIn_sub (sub_g [(74, []), (61, []), (30, [71, 0, 0, 0, 0, 0, 0, 0, 0, 0, 0, 0])] rfl) gw_X9_greatestWait
set_option maxRecDepth 100000 in
theorem gX10_rush_X9_greatestWait : GoodIn wsX10_rush (wsV RX10 262 RX9 yX9_greatestWait wsX9_greatestWait) := goodIn_app (goodIn_sub (sub_c (nq_m (n := 71) rfl) (sub_c (nq_m (n := 72) rfl) (sub_c (nq_m (n := 73) rfl) (sub_c (nq_m (n := 28) rfl) sub_n)))) (by decide +kernel)) ggX10_rush_X9_greatestWait
set_option maxRecDepth 100000 in
theorem ggX10_rush_X9_sumOfTips : GoodIn wsX10_rush wsX9_sumOfTips := goodIn_sub (sub_g [(78, []), (66, []), (30, [71, 0, 0, 0, 0, 0, 0, 0, 0, 0, 0, 0])] rfl) gw_X9_sumOfTips
set_option maxRecDepth 100000 in
theorem gX10_rush_X9_sumOfTips : GoodIn wsX10_rush (wsV RX10 265 RX9 yX9_sumOfTips wsX9_sumOfTips) := goodIn_app (goodIn_sub (sub_c (nq_m (n := 75) rfl) (sub_c (nq_m (n := 76) rfl) (sub_c (nq_m (n := 77) rfl) (sub_c (nq_m (n := 28) rfl) sub_n)))) (by decide +kernel)) ggX10_rush_X9_sumOfTips
noncomputable def dX10_rush_0_l : List (Nat × Instr × Nat) := [(0, .aload_n 0, 1), (1, .iload_n 1, 1), (2, .invokevirtual 249, 3), (5, .ifCond .ne 7, 3), (8, .sipush (-1001), 3), (11, .ireturn, 1), (12, .iload_n 2, 1), (13, .iconst 1, 1), (14, .iconst 4, 1), (15, .invokestatic 67, 3), (18, .ifCond .eq 12, 3), (21, .iload_n 3, 1), (22, .iconst 0, 1), (23, .iconst 2, 1), (24, .invokestatic 67, 3), (27, .ifCond .ne 7, 3), (30, .sipush (-1002), 3), (33, .ireturn, 1), (34, .aload_n 0, 1), (35, .getfield 46, 3), (38, .iload_n 1, 1), (39, .aload_n 0, 1), (40, .getfield 26, 3), (43, .getfield 116, 3), (46, .aload_n 0, 1), (47, .getfield 10, 3), (50, .invokevirtual 252, 3), (53, .aload_n 0, 1), (54, .getfield 46, 3), (57, .iconst 0, 1), (58, .iload_n 2, 1), (59, .invokevirtual 256, 3), (62, .iload_n 3, 1), (63, .lookupswitch 41 #[(0, 25), (1, 33)], 25), (88, .aload_n 0, 1), (89, .getfield 46, 3), (92, .invokevirtual 259, 3), (95, .ireturn, 1), (96, .aload_n 0, 1), (97, .getfield 46, 3)]
set_option maxRecDepth 100000 in
theorem dX10_rush_0_g : dX10_rush_0_l.all (fun x => decide (decode cX10_rush x.1 = .ok x.2)) = true := by decide +kernel
noncomputable def dX10_rush_100_l : List (Nat × Instr × Nat) := [(100, .invokevirtual 262, 3), (103, .ireturn, 1), (104, .aload_n 0, 1), (105, .getfield 46, 3), (108, .invokevirtual 265, 3), (111, .ireturn, 1)]
set_option maxRecDepth 100000 in
theorem dX10_rush_100_g : dX10_rush_100_l.all (fun x => decide (decode cX10_rush x.1 = .ok x.2)) = true := by decide +kernel
set_option maxRecDepth 100000 in
theorem ggX10_bestRow_X10_allHang : GoodIn wsX10_bestRow wsX10_allHang := goodIn_sub (sub_g [(10, []), (2, [0, 7, 0, 0, 0, 0, 0, 0, 0, 0, 0, 0, 0, 83, 0, 0, 0, 0, 0, 0, 0, 0, 0, 0, 0, 0, 0, 0, 12, 0, 0, 0, 0, 0, 0, 0])] rfl) gw_X10_allHang
set_option maxRecDepth 100000 in
theorem gX10_bestRow_X10_allHang : GoodIn wsX10_bestRow (wsV RX10 249 RX10 yX10_allHang wsX10_allHang) := goodIn_app (goodIn_sub (sub_c (nq_m (n := 6) rfl) (sub_c (nq_m (n := 7) rfl) (sub_c (nq_m (n := 8) rfl) (sub_c (nq_m (n := 9) rfl) sub_n)))) (by decide +kernel)) ggX10_bestRow_X10_allHang
set_option maxRecDepth 100000 in
theorem ggX10_bestRow_X10_within : GoodIn wsX10_bestRow wsX10_within := goodIn_sub (sub_c (nq_m (n := 25) rfl) sub_n) gw_X10_within
set_option maxRecDepth 100000 in
theorem gX10_bestRow_X10_within : GoodIn wsX10_bestRow (va_wsS RX10 67 yX10_within wsX10_within) := goodIn_app (goodIn_sub (sub_c (nq_m (n := 23) rfl) (sub_c (nq_m (n := 24) rfl) (sub_c (nq_m (n := 9) rfl) sub_n))) (by decide +kernel)) ggX10_bestRow_X10_within
set_option maxRecDepth 100000 in
theorem ggX10_bestRow_J6_bitCount_0f7a4 : GoodIn wsX10_bestRow wsJ6_bitCount_0f7a4 := goodIn_sub (sub_g [(29, [0, 0, 0])] rfl) gw_J6_bitCount_0f7a4
set_option maxRecDepth 100000 in
theorem gX10_bestRow_J6_bitCount_0f7a4 : GoodIn wsX10_bestRow (va_wsS RX10 268 yJ6_bitCount_0f7a4 wsJ6_bitCount_0f7a4) := goodIn_app (goodIn_sub (sub_c (nq_m (n := 26) rfl) (sub_c (nq_m (n := 27) rfl) (sub_c (nq_m (n := 28) rfl) sub_n))) (by decide +kernel)) ggX10_bestRow_J6_bitCount_0f7a4
set_option maxRecDepth 100000 in
theorem ggX10_bestRow_X9_load : GoodIn wsX10_bestRow wsX9_load := goodIn_sub (sub_g [(37, [0, 0, 0, 0, 0, 0, 0, 0, 0, 0, 0, 0, 0, 0, 0, 0, 0, 0, 0, 0, 0, 62, 0, 0, 0, 0, 0, 0, 0, 0, 0, 0, 0, 8, 0, 0, 0, 0, 0, 0]), (133, [0, 0, 0, 0, 0, 0, 0])] rfl) gw_X9_load
set_option maxRecDepth 100000 in
theorem gX10_bestRow_X9_load : GoodIn wsX10_bestRow (wsV RX10 252 RX9 yX9_load wsX9_load) := goodIn_app (goodIn_sub (sub_c (nq_m (n := 33) rfl) (sub_c (nq_m (n := 34) rfl) (sub_c (nq_m (n := 35) rfl) (sub_c (nq_m (n := 36) rfl) sub_n)))) (by decide +kernel)) ggX10_bestRow_X9_load
set_option maxRecDepth 100000 in
theorem gw_X9_findBest : wsX9_findBest.all goodWord = true := by decide +kernel
set_option maxRecDepth 100000 in
theorem ggX10_bestRow_X9_findBest : GoodIn wsX10_bestRow wsX9_findBest := goodIn_sub (sub_g [(62, [0, 0, 0, 0, 0]), (36, [31]), (38, [30, 0, 0, 0, 0]), (47, []), (42, [31, 0, 0, 0, 0, 0, 0]), (45, []), (40, []), (24, []), (9, [15, 55, 0, 0, 0, 0, 0, 0, 0, 0, 0, 0, 0, 0, 0, 0, 0, 0, 0, 0, 0, 0, 19, 0, 0, 0, 0, 0, 0, 0, 0, 0, 0, 0])] rfl) gw_X9_findBest
set_option maxRecDepth 100000 in
theorem gX10_bestRow_X9_findBest : GoodIn wsX10_bestRow (wsV RX10 273 RX9 yX9_findBest wsX9_findBest) := goodIn_app (goodIn_sub (sub_c (nq_m (n := 59) rfl) (sub_c (nq_m (n := 60) rfl) (sub_c (nq_m (n := 61) rfl) (sub_c (nq_m (n := 36) rfl) sub_n)))) (by decide +kernel)) ggX10_bestRow_X9_findBest
set_option maxRecDepth 100000 in
theorem gw_X9_bestMember : wsX9_bestMember.all goodWord = true := by decide +kernel
set_option maxRecDepth 100000 in
theorem ggX10_bestRow_X9_bestMember : GoodIn wsX10_bestRow wsX9_bestMember := goodIn_sub (sub_g [(105, []), (38, [46, 35, 0, 0, 0, 0, 0, 0, 0, 0, 0, 0, 0])] rfl) gw_X9_bestMember
set_option maxRecDepth 100000 in
theorem gX10_bestRow_X9_bestMember : GoodIn wsX10_bestRow (wsV RX10 280 RX9 yX9_bestMember wsX9_bestMember) := goodIn_app (goodIn_sub (sub_c (nq_m (n := 102) rfl) (sub_c (nq_m (n := 103) rfl) (sub_c (nq_m (n := 104) rfl) (sub_c (nq_m (n := 36) rfl) sub_n)))) (by decide +kernel)) ggX10_bestRow_X9_bestMember
noncomputable def dX10_bestRow_0_l : List (Nat × Instr × Nat) := [(0, .aload_n 0, 1), (1, .iload_n 1, 1), (2, .invokevirtual 249, 3), (5, .ifCond .ne 7, 3), (8, .sipush (-1001), 3), (11, .ireturn, 1), (12, .iload_n 2, 1), (13, .iconst 1, 1), (14, .iconst 4, 1), (15, .invokestatic 67, 3), (18, .ifCond .ne 7, 3), (21, .sipush (-1002), 3), (24, .ireturn, 1), (25, .iload_n 1, 1), (26, .invokestatic 268, 3), (29, .bipush 7, 2), (31, .if_icmp .le 7, 3), (34, .sipush (-1003), 3), (37, .ireturn, 1), (38, .aload_n 0, 1), (39, .getfield 46, 3), (42, .iload_n 1, 1), (43, .aload_n 0, 1), (44, .getfield 26, 3), (47, .getfield 116, 3), (50, .aload_n 0, 1), (51, .getfield 10, 3), (54, .invokevirtual 252, 3), (57, .aload_n 0, 1), (58, .getfield 46, 3), (61, .iload_n 2, 1), (62, .invokevirtual 273, 3), (65, .iload_n 3, 1), (66, .iconst (-1), 1), (67, .if_icmp .ne 13, 3), (70, .aload_n 0, 1), (71, .getfield 46, 3), (74, .getfield 277, 3), (77, .goto 11, 3), (80, .aload_n 0, 1)]
set_option maxRecDepth 100000 in
theorem dX10_bestRow_0_g : dX10_bestRow_0_l.all (fun x => decide (decode cX10_bestRow x.1 = .ok x.2)) = true := by decide +kernel
noncomputable def dX10_bestRow_81_l : List (Nat × Instr × Nat) := [(81, .getfield 46, 3), (84, .iload_n 3, 1), (85, .invokevirtual 280, 3), (88, .ireturn, 1)]
set_option maxRecDepth 100000 in
theorem dX10_bestRow_81_g : dX10_bestRow_81_l.all (fun x => decide (decode cX10_bestRow x.1 = .ok x.2)) = true := by decide +kernel
set_option maxRecDepth 100000 in
theorem ggX10_wanted_X10_allHang : GoodIn wsX10_wanted wsX10_allHang := goodIn_sub (sub_g [(9, []), (2, [0, 6, 0, 0, 0, 0, 0, 0, 0, 0, 0, 0, 0, 49, 0, 0, 0, 0, 0, 0, 0, 0, 0, 0, 0, 0, 0, 0, 0, 0, 0, 0, 0, 0, 0, 0])] rfl) gw_X10_allHang
set_option maxRecDepth 100000 in
theorem gX10_wanted_X10_allHang : GoodIn wsX10_wanted (wsV RX10 249 RX10 yX10_allHang wsX10_allHang) := goodIn_app (goodIn_sub (sub_c (nq_m (n := 5) rfl) (sub_c (nq_m (n := 6) rfl) (sub_c (nq_m (n := 7) rfl) (sub_c (nq_m (n := 8) rfl) sub_n)))) (by decide +kernel)) ggX10_wanted_X10_allHang
set_option maxRecDepth 100000 in
theorem ggX10_wanted_X10_within : GoodIn wsX10_wanted wsX10_within := goodIn_sub (sub_c (nq_m (n := 24) rfl) sub_n) gw_X10_within
set_option maxRecDepth 100000 in
theorem gX10_wanted_X10_within : GoodIn wsX10_wanted (va_wsS RX10 67 yX10_within wsX10_within) := goodIn_app (goodIn_sub (sub_c (nq_m (n := 22) rfl) (sub_c (nq_m (n := 23) rfl) (sub_c (nq_m (n := 8) rfl) sub_n))) (by decide +kernel)) ggX10_wanted_X10_within
set_option maxRecDepth 100000 in
theorem ggX10_wanted_X9_load : GoodIn wsX10_wanted wsX9_load := goodIn_sub (sub_g [(29, [0, 0, 0, 0, 0, 0, 0, 0, 0, 0, 0, 0, 0, 0, 0, 0, 0, 0, 0, 0, 0, 43, 0, 0, 0, 0, 0, 0, 0, 0, 0, 0, 0, 0, 0, 0, 0, 0, 0, 0]), (86, [0, 0, 0, 0, 0, 0, 0])] rfl) gw_X9_load
set_option maxRecDepth 100000 in
theorem gX10_wanted_X9_load : GoodIn wsX10_wanted (wsV RX10 252 RX9 yX9_load wsX9_load) := goodIn_app (goodIn_sub (sub_c (nq_m (n := 25) rfl) (sub_c (nq_m (n := 26) rfl) (sub_c (nq_m (n := 27) rfl) (sub_c (nq_m (n := 28) rfl) sub_n)))) (by decide +kernel)) ggX10_wanted_X9_load
set_option maxRecDepth 100000 in
theorem ggX10_wanted_X9_serveFrom : GoodIn wsX10_wanted wsX9_serveFrom := goodIn_sub (sub_g [(54, []), (30, [24, 0, 0]), (28, [29, 0]), (39, []), (34, [25, 0, 0, 0, 0, 0, 0]), (37, []), (32, []), (23, []), (8, [15, 69, 0, 0, 0, 0, 0, 0, 0, 0, 0, 0, 0])] rfl) gw_X9_serveFrom
set_option maxRecDepth 100000 in
theorem gX10_wanted_X9_serveFrom : GoodIn wsX10_wanted (wsV RX10 256 RX9 yX9_serveFrom wsX9_serveFrom) := goodIn_app (goodIn_sub (sub_c (nq_m (n := 51) rfl) (sub_c (nq_m (n := 52) rfl) (sub_c (nq_m (n := 53) rfl) (sub_c (nq_m (n := 28) rfl) sub_n)))) (by decide +kernel)) ggX10_wanted_X9_serveFrom
set_option maxRecDepth 100000 in
theorem ggX10_wanted_X9_greatestWait : GoodIn wsX10_wanted wsX9_greatestWait := goodIn_sub (sub_g [(70, []), (61, []), (30, [63, 0, 0, 0, 0, 0, 0, 0, 0, 0, 0, 0])] rfl) gw_X9_greatestWait
set_option maxRecDepth 100000 in
theorem gX10_wanted_X9_greatestWait : GoodIn wsX10_wanted (wsV RX10 262 RX9 yX9_greatestWait wsX9_greatestWait) := goodIn_app (goodIn_sub (sub_c (nq_m (n := 67) rfl) (sub_c (nq_m (n := 68) rfl) (sub_c (nq_m (n := 69) rfl) (sub_c (nq_m (n := 28) rfl) sub_n)))) (by decide +kernel)) ggX10_wanted_X9_greatestWait
noncomputable def dX10_wanted_0_l : List (Nat × Instr × Nat) := [(0, .aload_n 0, 1), (1, .iload_n 1, 1), (2, .invokevirtual 249, 3), (5, .ifCond .ne 7, 3), (8, .sipush (-1001), 3), (11, .ireturn, 1), (12, .iload_n 2, 1), (13, .iconst 0, 1), (14, .sipush 9999, 3), (17, .invokestatic 67, 3), (20, .ifCond .ne 7, 3), (23, .sipush (-1002), 3), (26, .ireturn, 1), (27, .aload_n 0, 1), (28, .getfield 46, 3), (31, .iload_n 1, 1), (32, .aload_n 0, 1), (33, .getfield 26, 3), (36, .getfield 116, 3), (39, .aload_n 0, 1), (40, .getfield 10, 3), (43, .invokevirtual 252, 3), (46, .iconst 1, 1), (47, .istore_n 3, 1), (48, .iload_n 3, 1), (49, .iconst 4, 1), (50, .if_icmp .gt 31, 3), (53, .aload_n 0, 1), (54, .getfield 46, 3), (57, .iconst 0, 1), (58, .iload_n 3, 1), (59, .invokevirtual 256, 3), (62, .aload_n 0, 1), (63, .getfield 46, 3), (66, .invokevirtual 262, 3), (69, .iload_n 2, 1), (70, .if_icmp .gt 5, 3), (73, .iload_n 3, 1), (74, .ireturn, 1), (75, .iinc 3 1, 3)]
set_option maxRecDepth 100000 in
theorem dX10_wanted_0_g : dX10_wanted_0_l.all (fun x => decide (decode cX10_wanted x.1 = .ok x.2)) = true := by decide +kernel
noncomputable def dX10_wanted_78_l : List (Nat × Instr × Nat) := [(78, .goto (-30), 3), (81, .iconst (-1), 1), (82, .ireturn, 1)]
set_option maxRecDepth 100000 in
theorem dX10_wanted_78_g : dX10_wanted_78_l.all (fun x => decide (decode cX10_wanted x.1 = .ok x.2)) = true := by decide +kernel
set_option maxRecDepth 100000 in
theorem ggX10_claim_X2_knows : GoodIn wsX10_claim wsX2_knows := goodIn_sub (sub_g [(11, [0, 32, 0, 0, 0, 0, 0, 0, 0])] rfl) gw_X2_knows
set_option maxRecDepth 100000 in
theorem gX10_claim_X2_knows : GoodIn wsX10_claim (wsV RX10 158 RX2 yX2_knows wsX2_knows) := goodIn_app (goodIn_sub (sub_c (nq_m (n := 7) rfl) (sub_c (nq_m (n := 8) rfl) (sub_c (nq_m (n := 9) rfl) (sub_c (nq_m (n := 10) rfl) sub_n)))) (by decide +kernel)) ggX10_claim_X2_knows
set_option maxRecDepth 100000 in
theorem ggX10_claim_X10_within : GoodIn wsX10_claim wsX10_within := goodIn_sub (sub_c (nq_m (n := 16) rfl) sub_n) gw_X10_within
set_option maxRecDepth 100000 in
theorem gX10_claim_X10_within : GoodIn wsX10_claim (va_wsS RX10 67 yX10_within wsX10_within) := goodIn_app (goodIn_sub (sub_c (nq_m (n := 13) rfl) (sub_c (nq_m (n := 14) rfl) (sub_c (nq_m (n := 15) rfl) sub_n))) (by decide +kernel)) ggX10_claim_X10_within
set_option maxRecDepth 100000 in
theorem gw_X0_isOf : wsX0_isOf.all goodWord = true := by decide +kernel
set_option maxRecDepth 100000 in
theorem ggX10_claim_X0_isOf : GoodIn wsX10_claim wsX0_isOf := goodIn_sub (sub_g [(21, [0, 0, 29, 0, 0, 0])] rfl) gw_X0_isOf
set_option maxRecDepth 100000 in
theorem gX10_claim_X0_isOf : GoodIn wsX10_claim (wsV RX10 283 RX0 yX0_isOf wsX0_isOf) := goodIn_app (goodIn_sub (sub_c (nq_m (n := 17) rfl) (sub_c (nq_m (n := 18) rfl) (sub_c (nq_m (n := 19) rfl) (sub_c (nq_m (n := 20) rfl) sub_n)))) (by decide +kernel)) ggX10_claim_X0_isOf
set_option maxRecDepth 100000 in
theorem gw_X0_add : wsX0_add.all goodWord = true := by decide +kernel
set_option maxRecDepth 100000 in
theorem ggX10_claim_X0_add : GoodIn wsX10_claim wsX0_add := goodIn_sub (sub_g [(27, []), (22, [0, 4, 0, 23, 0, 0, 0])] rfl) gw_X0_add
set_option maxRecDepth 100000 in
theorem gX10_claim_X0_add : GoodIn wsX10_claim (wsV RX10 286 RX0 yX0_add wsX0_add) := goodIn_app (goodIn_sub (sub_c (nq_m (n := 24) rfl) (sub_c (nq_m (n := 25) rfl) (sub_c (nq_m (n := 26) rfl) (sub_c (nq_m (n := 20) rfl) sub_n)))) (by decide +kernel)) ggX10_claim_X0_add
noncomputable def dX10_claim_0_l : List (Nat × Instr × Nat) := [(0, .aload_n 0, 1), (1, .getfield 26, 3), (4, .getfield 116, 3), (7, .iload_n 1, 1), (8, .invokevirtual 158, 3), (11, .ifCond .ne 7, 3), (14, .sipush (-1001), 3), (17, .ireturn, 1), (18, .iload_n 2, 1), (19, .iconst 0, 1), (20, .sipush 255, 3), (23, .invokestatic 67, 3), (26, .ifCond .eq 20, 3), (29, .iload_n 3, 1), (30, .iconst 0, 1), (31, .sipush 255, 3), (34, .invokestatic 67, 3), (37, .ifCond .eq 9, 3), (40, .iload_n 2, 1), (41, .iload_n 3, 1), (42, .iand, 1), (43, .ifCond .eq 7, 3), (46, .sipush (-1002), 3), (49, .ireturn, 1), (50, .aload_n 0, 1), (51, .getfield 26, 3), (54, .getfield 116, 3), (57, .getfield 171, 3), (60, .iload_n 1, 1), (61, .iaload, 1), (62, .iconst (-1), 1), (63, .if_icmp .ne 33, 3), (66, .aload_n 0, 1), (67, .getfield 26, 3), (70, .getfield 116, 3), (73, .getfield 180, 3), (76, .iload_n 1, 1), (77, .iaload, 1), (78, .iconst (-1), 1), (79, .if_icmp .ne 17, 3)]
set_option maxRecDepth 100000 in
theorem dX10_claim_0_g : dX10_claim_0_l.all (fun x => decide (decode cX10_claim x.1 = .ok x.2)) = true := by decide +kernel
noncomputable def dX10_claim_82_l : List (Nat × Instr × Nat) := [(82, .aload_n 0, 1), (83, .getfield 26, 3), (86, .getfield 131, 3), (89, .iload_n 1, 1), (90, .invokevirtual 283, 3), (93, .ifCond .eq 7, 3), (96, .sipush (-1003), 3), (99, .ireturn, 1), (100, .aload_n 0, 1), (101, .getfield 26, 3), (104, .getfield 131, 3), (107, .getfield 135, 3), (110, .bipush 6, 2), (112, .if_icmp .lt 7, 3), (115, .sipush (-1004), 3), (118, .ireturn, 1), (119, .aload_n 0, 1), (120, .getfield 26, 3), (123, .getfield 131, 3), (126, .iload_n 1, 1), (127, .iload_n 2, 1), (128, .iload_n 3, 1), (129, .invokevirtual 286, 3), (132, .ireturn, 1)]
set_option maxRecDepth 100000 in
theorem dX10_claim_82_g : dX10_claim_82_l.all (fun x => decide (decode cX10_claim x.1 = .ok x.2)) = true := by decide +kernel
set_option maxRecDepth 100000 in
theorem ggX10_fits_X0_knows : GoodIn wsX10_fits wsX0_knows := goodIn_sub (sub_g [(8, [0, 45, 0, 0, 0])] rfl) gw_X0_knows
set_option maxRecDepth 100000 in
theorem gX10_fits_X0_knows : GoodIn wsX10_fits (wsV RX10 288 RX0 yX0_knows wsX0_knows) := goodIn_app (goodIn_sub (sub_c (nq_m (n := 4) rfl) (sub_c (nq_m (n := 5) rfl) (sub_c (nq_m (n := 6) rfl) (sub_c (nq_m (n := 7) rfl) sub_n)))) (by decide +kernel)) ggX10_fits_X0_knows
set_option maxRecDepth 100000 in
theorem ggX10_fits_X0_thingsFor : GoodIn wsX10_fits wsX0_thingsFor := goodIn_sub (sub_g [(13, [0, 0, 0, 0, 0]), (5, [0, 0, 0, 0, 9, 0, 0, 0, 0, 0, 0, 0, 0, 0, 0, 0, 0, 0, 0, 0, 0, 0, 0, 0, 0, 15, 0, 0, 0, 0, 0, 0, 0, 0, 0, 0, 0])] rfl) gw_X0_thingsFor
set_option maxRecDepth 100000 in
theorem gX10_fits_X0_thingsFor : GoodIn wsX10_fits (wsV RX10 289 RX0 yX0_thingsFor wsX0_thingsFor) := goodIn_app (goodIn_sub (sub_c (nq_m (n := 10) rfl) (sub_c (nq_m (n := 11) rfl) (sub_c (nq_m (n := 12) rfl) (sub_c (nq_m (n := 7) rfl) sub_n)))) (by decide +kernel)) ggX10_fits_X0_thingsFor
noncomputable def dX10_fits_0_l : List (Nat × Instr × Nat) := [(0, .aload_n 0, 1), (1, .getfield 26, 3), (4, .getfield 131, 3), (7, .iload_n 1, 1), (8, .invokevirtual 288, 3), (11, .ifCond .ne 7, 3), (14, .sipush (-1001), 3), (17, .ireturn, 1), (18, .aload_n 0, 1), (19, .getfield 26, 3), (22, .getfield 131, 3), (25, .iload_n 1, 1), (26, .aload_n 0, 1), (27, .getfield 26, 3), (30, .getfield 116, 3), (33, .invokevirtual 289, 3), (36, .ireturn, 1)]
set_option maxRecDepth 100000 in
theorem dX10_fits_0_g : dX10_fits_0_l.all (fun x => decide (decode cX10_fits x.1 = .ok x.2)) = true := by decide +kernel
set_option maxRecDepth 100000 in
theorem gw_X5_load : wsX5_load.all goodWord = true := by decide +kernel
set_option maxRecDepth 100000 in
theorem ggX10_ways_X5_load : GoodIn wsX10_ways wsX5_load := goodIn_sub (sub_g [(9, [0, 0, 0, 0, 0, 0, 0, 0, 0, 0, 0, 0, 0, 0, 0, 0, 0, 0, 0, 0, 0, 0, 0, 0, 0, 0, 0, 0, 0, 0, 0, 0, 0, 0, 0, 0, 0, 0, 0, 0, 0, 0, 24, 0, 0, 0, 0, 0, 0, 0, 0, 0, 0, 0, 0, 0, 0])] rfl) gw_X5_load
set_option maxRecDepth 100000 in
theorem gX10_ways_X5_load : GoodIn wsX10_ways (wsV RX10 293 RX5 yX5_load wsX5_load) := goodIn_app (goodIn_sub (sub_c (nq_m (n := 5) rfl) (sub_c (nq_m (n := 6) rfl) (sub_c (nq_m (n := 7) rfl) (sub_c (nq_m (n := 8) rfl) sub_n)))) (by decide +kernel)) ggX10_ways_X5_load
set_option maxRecDepth 100000 in
theorem ggX10_ways_X5_number : GoodIn wsX10_ways wsX5_number := goodIn_sub (sub_g [(55, []), (15, [0, 39, 0, 0, 0]), (8, [51, 19, 0, 0])] rfl) gw_X5_number
set_option maxRecDepth 100000 in
theorem gX10_ways_X5_number : GoodIn wsX10_ways (wsV RX10 296 RX5 yX5_number wsX5_number) := goodIn_app (goodIn_sub (sub_c (nq_m (n := 52) rfl) (sub_c (nq_m (n := 53) rfl) (sub_c (nq_m (n := 54) rfl) (sub_c (nq_m (n := 8) rfl) sub_n)))) (by decide +kernel)) ggX10_ways_X5_number
noncomputable def dX10_ways_0_l : List (Nat × Instr × Nat) := [(0, .aload_n 0, 1), (1, .getfield 53, 3), (4, .aload_n 0, 1), (5, .getfield 26, 3), (8, .getfield 131, 3), (11, .aload_n 0, 1), (12, .getfield 26, 3), (15, .getfield 116, 3), (18, .invokevirtual 293, 3), (21, .aload_n 0, 1), (22, .getfield 53, 3), (25, .invokevirtual 296, 3), (28, .lreturn, 1)]
set_option maxRecDepth 100000 in
theorem dX10_ways_0_g : dX10_ways_0_l.all (fun x => decide (decode cX10_ways x.1 = .ok x.2)) = true := by decide +kernel
set_option maxRecDepth 100000 in
theorem ggX10_sure_X0_knows : GoodIn wsX10_sure wsX0_knows := goodIn_sub (sub_g [(9, [0, 73, 0, 0, 0])] rfl) gw_X0_knows
set_option maxRecDepth 100000 in
theorem gX10_sure_X0_knows : GoodIn wsX10_sure (wsV RX10 288 RX0 yX0_knows wsX0_knows) := goodIn_app (goodIn_sub (sub_c (nq_m (n := 5) rfl) (sub_c (nq_m (n := 6) rfl) (sub_c (nq_m (n := 7) rfl) (sub_c (nq_m (n := 8) rfl) sub_n)))) (by decide +kernel)) ggX10_sure_X0_knows
set_option maxRecDepth 100000 in
theorem ggX10_sure_X5_load : GoodIn wsX10_sure wsX5_load := goodIn_sub (sub_g [(15, [0, 0, 0, 0, 0, 0, 0, 0, 0, 0]), (8, [17, 0, 0, 0, 0, 0]), (6, [0, 1, 0, 21, 0, 0, 0, 0, 0, 0, 0, 0, 0, 0, 0, 0, 0, 0, 0, 0, 0, 0, 0, 0, 31, 0, 0, 0, 0, 0, 0, 0, 0, 0, 0, 0, 0, 0, 0])] rfl) gw_X5_load
set_option maxRecDepth 100000 in
theorem gX10_sure_X5_load : GoodIn wsX10_sure (wsV RX10 293 RX5 yX5_load wsX5_load) := goodIn_app (goodIn_sub (sub_c (nq_m (n := 11) rfl) (sub_c (nq_m (n := 12) rfl) (sub_c (nq_m (n := 13) rfl) (sub_c (nq_m (n := 14) rfl) sub_n)))) (by decide +kernel)) ggX10_sure_X5_load
set_option maxRecDepth 100000 in
theorem gw_X5_onlyThingOf : wsX5_onlyThingOf.all goodWord = true := by decide +kernel
set_option maxRecDepth 100000 in
theorem ggX10_sure_X5_onlyThingOf : GoodIn wsX10_sure wsX5_onlyThingOf := goodIn_sub (sub_g [(56, []), (21, [0, 34, 0, 0, 0, 0, 0]), (14, [48, 0, 0, 0, 0, 0, 19, 0, 0])] rfl) gw_X5_onlyThingOf
set_option maxRecDepth 100000 in
theorem gX10_sure_X5_onlyThingOf : GoodIn wsX10_sure (wsV RX10 299 RX5 yX5_onlyThingOf wsX5_onlyThingOf) := goodIn_app (goodIn_sub (sub_c (nq_m (n := 53) rfl) (sub_c (nq_m (n := 54) rfl) (sub_c (nq_m (n := 55) rfl) (sub_c (nq_m (n := 14) rfl) sub_n)))) (by decide +kernel)) ggX10_sure_X5_onlyThingOf
noncomputable def dX10_sure_0_l : List (Nat × Instr × Nat) := [(0, .aload_n 0, 1), (1, .getfield 26, 3), (4, .getfield 131, 3), (7, .iload_n 1, 1), (8, .invokevirtual 288, 3), (11, .ifCond .ne 7, 3), (14, .sipush (-1001), 3), (17, .ireturn, 1), (18, .aload_n 0, 1), (19, .getfield 53, 3), (22, .aload_n 0, 1), (23, .getfield 26, 3), (26, .getfield 131, 3), (29, .aload_n 0, 1), (30, .getfield 26, 3), (33, .getfield 116, 3), (36, .invokevirtual 293, 3), (39, .aload_n 0, 1), (40, .getfield 53, 3), (43, .iload_n 1, 1), (44, .invokevirtual 299, 3), (47, .ireturn, 1)]
set_option maxRecDepth 100000 in
theorem dX10_sure_0_g : dX10_sure_0_l.all (fun x => decide (decode cX10_sure x.1 = .ok x.2)) = true := by decide +kernel
set_option maxRecDepth 100000 in
theorem ggX10_grant_X0_knows : GoodIn wsX10_grant wsX0_knows := goodIn_sub (sub_g [(9, [0, 86, 0, 0, 0])] rfl) gw_X0_knows
set_option maxRecDepth 100000 in
theorem gX10_grant_X0_knows : GoodIn wsX10_grant (wsV RX10 288 RX0 yX0_knows wsX0_knows) := goodIn_app (goodIn_sub (sub_c (nq_m (n := 5) rfl) (sub_c (nq_m (n := 6) rfl) (sub_c (nq_m (n := 7) rfl) (sub_c (nq_m (n := 8) rfl) sub_n)))) (by decide +kernel)) ggX10_grant_X0_knows
set_option maxRecDepth 100000 in
theorem ggX10_grant_X5_load : GoodIn wsX10_grant wsX5_load := goodIn_sub (sub_g [(15, [0, 0, 0, 0, 0, 0, 0, 0, 0, 0]), (8, [17, 0, 0, 0, 0, 0]), (6, [0, 1, 0, 21, 0, 0, 0, 0, 0, 0, 0, 0, 0, 0, 0, 0, 0, 0, 0, 0, 0, 0, 0, 0, 44, 0, 0, 0, 0, 0, 0, 0, 0, 0, 0, 0, 0, 0, 0])] rfl) gw_X5_load
set_option maxRecDepth 100000 in
theorem gX10_grant_X5_load : GoodIn wsX10_grant (wsV RX10 293 RX5 yX5_load wsX5_load) := goodIn_app (goodIn_sub (sub_c (nq_m (n := 11) rfl) (sub_c (nq_m (n := 12) rfl) (sub_c (nq_m (n := 13) rfl) (sub_c (nq_m (n := 14) rfl) sub_n)))) (by decide +kernel)) ggX10_grant_X5_load
set_option maxRecDepth 100000 in
theorem ggX10_grant_X5_onlyThingOf : GoodIn wsX10_grant wsX5_onlyThingOf := goodIn_sub (sub_g [(56, []), (21, [0, 34, 0, 0, 0, 0, 0]), (14, [48, 0, 0, 0, 0, 0, 32, 0, 0])] rfl) gw_X5_onlyThingOf
set_option maxRecDepth 100000 in
theorem gX10_grant_X5_onlyThingOf : GoodIn wsX10_grant (wsV RX10 299 RX5 yX5_onlyThingOf wsX5_onlyThingOf) := goodIn_app (goodIn_sub (sub_c (nq_m (n := 53) rfl) (sub_c (nq_m (n := 54) rfl) (sub_c (nq_m (n := 55) rfl) (sub_c (nq_m (n := 14) rfl) sub_n)))) (by decide +kernel)) ggX10_grant_X5_onlyThingOf
set_option maxRecDepth 100000 in
theorem ggX10_grant_X0_guestOf : GoodIn wsX10_grant wsX0_guestOf := goodIn_sub (sub_g [(72, []), (27, [3]), (6, [0, 0, 0, 0, 86, 0, 0, 0])] rfl) gw_X0_guestOf
set_option maxRecDepth 100000 in
theorem gX10_grant_X0_guestOf : GoodIn wsX10_grant (wsV RX10 302 RX0 yX0_guestOf wsX0_guestOf) := goodIn_app (goodIn_sub (sub_c (nq_m (n := 69) rfl) (sub_c (nq_m (n := 70) rfl) (sub_c (nq_m (n := 71) rfl) (sub_c (nq_m (n := 8) rfl) sub_n)))) (by decide +kernel)) ggX10_grant_X0_guestOf
set_option maxRecDepth 100000 in
theorem ggX10_grant_X2_handOver : GoodIn wsX10_grant wsX2_handOver := goodIn_sub (sub_g [(76, []), (52, [24]), (38, [0, 0]), (35, [5, 0, 61, 0, 0, 0, 0, 0, 0, 0])] rfl) gw_X2_handOver
set_option maxRecDepth 100000 in
theorem gX10_grant_X2_handOver : GoodIn wsX10_grant (wsV RX10 223 RX2 yX2_handOver wsX2_handOver) := goodIn_app (goodIn_sub (sub_c (nq_m (n := 73) rfl) (sub_c (nq_m (n := 74) rfl) (sub_c (nq_m (n := 75) rfl) (sub_c (nq_m (n := 35) rfl) sub_n)))) (by decide +kernel)) ggX10_grant_X2_handOver
set_option maxRecDepth 100000 in
theorem gw_X0_remove : wsX0_remove.all goodWord = true := by decide +kernel
set_option maxRecDepth 100000 in
theorem ggX10_grant_X0_remove : GoodIn wsX10_grant wsX0_remove := goodIn_sub (sub_g [(81, []), (10, [16, 1, 0, 0]), (6, [0, 0, 0, 87, 0, 0, 0])] rfl) gw_X0_remove
set_option maxRecDepth 100000 in
theorem gX10_grant_X0_remove : GoodIn wsX10_grant (wsV RX10 305 RX0 yX0_remove wsX0_remove) := goodIn_app (goodIn_sub (sub_c (nq_m (n := 78) rfl) (sub_c (nq_m (n := 79) rfl) (sub_c (nq_m (n := 80) rfl) (sub_c (nq_m (n := 8) rfl) sub_n)))) (by decide +kernel)) ggX10_grant_X0_remove
noncomputable def dX10_grant_0_l : List (Nat × Instr × Nat) := [(0, .aload_n 0, 1), (1, .getfield 26, 3), (4, .getfield 131, 3), (7, .iload_n 1, 1), (8, .invokevirtual 288, 3), (11, .ifCond .ne 7, 3), (14, .sipush (-1001), 3), (17, .ireturn, 1), (18, .aload_n 0, 1), (19, .getfield 53, 3), (22, .aload_n 0, 1), (23, .getfield 26, 3), (26, .getfield 131, 3), (29, .aload_n 0, 1), (30, .getfield 26, 3), (33, .getfield 116, 3), (36, .invokevirtual 293, 3), (39, .aload_n 0, 1), (40, .getfield 53, 3), (43, .iload_n 1, 1), (44, .invokevirtual 299, 3), (47, .istore_n 2, 1), (48, .iload_n 2, 1), (49, .iconst (-1), 1), (50, .if_icmp .ne 7, 3), (53, .sipush (-1003), 3), (56, .ireturn, 1), (57, .aload_n 0, 1), (58, .getfield 26, 3), (61, .getfield 116, 3), (64, .iload_n 2, 1), (65, .aload_n 0, 1), (66, .getfield 26, 3), (69, .getfield 131, 3), (72, .iload_n 1, 1), (73, .invokevirtual 302, 3), (76, .invokevirtual 223, 3), (79, .aload_n 0, 1), (80, .getfield 26, 3), (83, .getfield 131, 3)]
set_option maxRecDepth 100000 in
theorem dX10_grant_0_g : dX10_grant_0_l.all (fun x => decide (decode cX10_grant x.1 = .ok x.2)) = true := by decide +kernel
noncomputable def dX10_grant_86_l : List (Nat × Instr × Nat) := [(86, .iload_n 1, 1), (87, .invokevirtual 305, 3), (90, .iload_n 2, 1), (91, .ireturn, 1)]
set_option maxRecDepth 100000 in
theorem dX10_grant_86_g : dX10_grant_86_l.all (fun x => decide (decode cX10_grant x.1 = .ok x.2)) = true := by decide +kernel
set_option maxRecDepth 100000 in
theorem ggX10_apart_X2_knows : GoodIn wsX10_apart wsX2_knows := goodIn_sub (sub_g [(8, [0, 15, 0, 0, 0, 0, 0, 0, 0])] rfl) gw_X2_knows
set_option maxRecDepth 100000 in
theorem gX10_apart_X2_knows : GoodIn wsX10_apart (wsV RX10 158 RX2 yX2_knows wsX2_knows) := goodIn_app (goodIn_sub (sub_c (nq_m (n := 4) rfl) (sub_c (nq_m (n := 5) rfl) (sub_c (nq_m (n := 6) rfl) (sub_c (nq_m (n := 7) rfl) sub_n)))) (by decide +kernel)) ggX10_apart_X2_knows
noncomputable def dX10_apart_0_l : List (Nat × Instr × Nat) := [(0, .aload_n 0, 1), (1, .getfield 26, 3), (4, .getfield 116, 3), (7, .iload_n 1, 1), (8, .invokevirtual 158, 3), (11, .ifCond .eq 17, 3), (14, .aload_n 0, 1), (15, .getfield 26, 3), (18, .getfield 116, 3), (21, .iload_n 2, 1), (22, .invokevirtual 158, 3), (25, .ifCond .ne 7, 3), (28, .sipush (-1001), 3), (31, .ireturn, 1), (32, .aload_n 0, 1), (33, .getfield 26, 3), (36, .getfield 116, 3), (39, .getfield 168, 3), (42, .iload_n 1, 1), (43, .iaload, 1), (44, .aload_n 0, 1), (45, .getfield 26, 3), (48, .getfield 116, 3), (51, .getfield 168, 3), (54, .iload_n 2, 1), (55, .iaload, 1), (56, .ixor, 1), (57, .ireturn, 1)]
set_option maxRecDepth 100000 in
theorem dX10_apart_0_g : dX10_apart_0_l.all (fun x => decide (decode cX10_apart x.1 = .ok x.2)) = true := by decide +kernel
set_option maxRecDepth 100000 in
theorem ggX10_asks_X0_knows : GoodIn wsX10_asks wsX0_knows := goodIn_sub (sub_g [(8, [0, 63, 0, 0, 0])] rfl) gw_X0_knows
set_option maxRecDepth 100000 in
theorem gX10_asks_X0_knows : GoodIn wsX10_asks (wsV RX10 288 RX0 yX0_knows wsX0_knows) := goodIn_app (goodIn_sub (sub_c (nq_m (n := 4) rfl) (sub_c (nq_m (n := 5) rfl) (sub_c (nq_m (n := 6) rfl) (sub_c (nq_m (n := 7) rfl) sub_n)))) (by decide +kernel)) ggX10_asks_X0_knows
set_option maxRecDepth 100000 in
theorem gw_X0_fewestAsked : wsX0_fewestAsked.all goodWord = true := by decide +kernel
set_option maxRecDepth 100000 in
theorem ggX10_asks_X0_fewestAsked : GoodIn wsX10_asks wsX0_fewestAsked := goodIn_sub (sub_g [(13, [0, 0, 0]), (7, [9, 0, 0, 0, 0, 0]), (5, [0, 1, 0, 13, 0, 0, 0, 0, 0, 0, 0, 0, 0, 0, 0, 0, 0, 0, 0, 0, 0, 0, 0, 0, 0, 0, 0, 0, 0, 0, 0, 0, 0, 0, 0, 0, 0, 0, 15, 0, 0, 0, 0, 0, 0, 0, 0, 0, 0, 0])] rfl) gw_X0_fewestAsked
set_option maxRecDepth 100000 in
theorem gX10_asks_X0_fewestAsked : GoodIn wsX10_asks (wsV RX10 308 RX0 yX0_fewestAsked wsX0_fewestAsked) := goodIn_app (goodIn_sub (sub_c (nq_m (n := 10) rfl) (sub_c (nq_m (n := 11) rfl) (sub_c (nq_m (n := 12) rfl) (sub_c (nq_m (n := 7) rfl) sub_n)))) (by decide +kernel)) ggX10_asks_X0_fewestAsked
noncomputable def dX10_asks_0_l : List (Nat × Instr × Nat) := [(0, .aload_n 0, 1), (1, .getfield 26, 3), (4, .getfield 131, 3), (7, .iload_n 1, 1), (8, .invokevirtual 288, 3), (11, .ifCond .ne 7, 3), (14, .sipush (-1001), 3), (17, .ireturn, 1), (18, .aload_n 0, 1), (19, .getfield 26, 3), (22, .getfield 131, 3), (25, .iload_n 1, 1), (26, .aload_n 0, 1), (27, .getfield 26, 3), (30, .getfield 116, 3), (33, .invokevirtual 308, 3), (36, .ireturn, 1)]
set_option maxRecDepth 100000 in
theorem dX10_asks_0_g : dX10_asks_0_l.all (fun x => decide (decode cX10_asks x.1 = .ok x.2)) = true := by decide +kernel
set_option maxRecDepth 100000 in
theorem gw_X10_imageOf : wsX10_imageOf.all goodWord = true := by decide +kernel
set_option maxRecDepth 100000 in
theorem ggX10_keep_X10_imageOf : GoodIn wsX10_keep wsX10_imageOf := goodIn_sub (sub_g [(7, [0, 0, 0, 0]), (6, [5, 52, 0, 0, 0, 0, 0, 0, 0, 0, 0])] rfl) gw_X10_imageOf
set_option maxRecDepth 100000 in
theorem gX10_keep_X10_imageOf : GoodIn wsX10_keep (wsV RX10 311 RX10 yX10_imageOf wsX10_imageOf) := goodIn_app (goodIn_sub (sub_c (nq_m (n := 3) rfl) (sub_c (nq_m (n := 4) rfl) (sub_c (nq_m (n := 5) rfl) (sub_c (nq_m (n := 6) rfl) sub_n)))) (by decide +kernel)) ggX10_keep_X10_imageOf
set_option maxRecDepth 100000 in
theorem gw_X4_copyFrom : wsX4_copyFrom.all goodWord = true := by decide +kernel
set_option maxRecDepth 100000 in
theorem ggX10_keep_X4_copyFrom : GoodIn wsX10_keep wsX4_copyFrom := goodIn_sub (sub_g [(17, [0, 0, 0, 0, 0, 0, 0, 0, 0, 0, 0, 0, 0, 0, 0, 0, 0, 0, 0, 0, 0, 0, 0, 0, 0, 0, 0, 0, 0, 0, 0, 0, 0, 0, 0, 0, 0, 0, 0, 0, 0, 0, 0, 0, 0, 0, 0, 10, 0, 0, 0, 0, 0, 0, 0, 0, 0, 0, 0, 0, 0, 0, 0, 0, 0, 0, 0, 0])] rfl) gw_X4_copyFrom
set_option maxRecDepth 100000 in
theorem gX10_keep_X4_copyFrom : GoodIn wsX10_keep (wsV RX10 315 RX4 yX4_copyFrom wsX4_copyFrom) := goodIn_app (goodIn_sub (sub_c (nq_m (n := 13) rfl) (sub_c (nq_m (n := 14) rfl) (sub_c (nq_m (n := 15) rfl) (sub_c (nq_m (n := 16) rfl) sub_n)))) (by decide +kernel)) ggX10_keep_X4_copyFrom
noncomputable def dX10_keep_0_l : List (Nat × Instr × Nat) := [(0, .aload_n 0, 1), (1, .iload_n 1, 1), (2, .invokevirtual 311, 3), (5, .astore_n 2, 1), (6, .aload_n 2, 1), (7, .ifnonnull 7, 3), (10, .sipush (-1001), 3), (13, .ireturn, 1), (14, .aload_n 2, 1), (15, .aload_n 0, 1), (16, .getfield 26, 3), (19, .invokevirtual 315, 3), (22, .aload_n 2, 1), (23, .iconst 1, 1), (24, .putfield 95, 3), (27, .iconst 1, 1), (28, .ireturn, 1)]
set_option maxRecDepth 100000 in
theorem dX10_keep_0_g : dX10_keep_0_l.all (fun x => decide (decode cX10_keep x.1 = .ok x.2)) = true := by decide +kernel
set_option maxRecDepth 100000 in
theorem ggX10_goBack_X10_imageOf : GoodIn wsX10_goBack wsX10_imageOf := goodIn_sub (sub_g [(7, [0, 0, 0, 0]), (6, [5, 57, 0, 0, 0, 0, 0, 0, 0, 0, 0])] rfl) gw_X10_imageOf
set_option maxRecDepth 100000 in
theorem gX10_goBack_X10_imageOf : GoodIn wsX10_goBack (wsV RX10 311 RX10 yX10_imageOf wsX10_imageOf) := goodIn_app (goodIn_sub (sub_c (nq_m (n := 3) rfl) (sub_c (nq_m (n := 4) rfl) (sub_c (nq_m (n := 5) rfl) (sub_c (nq_m (n := 6) rfl) sub_n)))) (by decide +kernel)) ggX10_goBack_X10_imageOf
set_option maxRecDepth 100000 in
theorem ggX10_goBack_X4_copyFrom : GoodIn wsX10_goBack wsX4_copyFrom := goodIn_sub (sub_g [(17, [0, 0, 0, 0, 0, 0, 0, 0, 0, 0, 0, 0, 0, 0, 0, 0, 0, 0, 0, 0, 0, 0, 0, 0, 0, 0, 0, 0, 0, 0, 0, 0, 0, 0, 0, 0, 0, 0, 0, 0, 0, 0, 0, 0, 0, 0, 0, 0, 0, 0, 0, 0, 10, 0, 0, 0, 0, 0, 0, 0, 0, 0, 0, 0, 0, 0, 0, 0])] rfl) gw_X4_copyFrom
set_option maxRecDepth 100000 in
theorem gX10_goBack_X4_copyFrom : GoodIn wsX10_goBack (wsV RX10 315 RX4 yX4_copyFrom wsX4_copyFrom) := goodIn_app (goodIn_sub (sub_c (nq_m (n := 13) rfl) (sub_c (nq_m (n := 14) rfl) (sub_c (nq_m (n := 15) rfl) (sub_c (nq_m (n := 16) rfl) sub_n)))) (by decide +kernel)) ggX10_goBack_X4_copyFrom
noncomputable def dX10_goBack_0_l : List (Nat × Instr × Nat) := [(0, .aload_n 0, 1), (1, .iload_n 1, 1), (2, .invokevirtual 311, 3), (5, .astore_n 2, 1), (6, .aload_n 2, 1), (7, .ifnonnull 7, 3), (10, .sipush (-1001), 3), (13, .ireturn, 1), (14, .aload_n 2, 1), (15, .getfield 95, 3), (18, .ifCond .ne 7, 3), (21, .sipush (-1003), 3), (24, .ireturn, 1), (25, .aload_n 0, 1), (26, .getfield 26, 3), (29, .aload_n 2, 1), (30, .invokevirtual 315, 3), (33, .iconst 1, 1), (34, .ireturn, 1)]
set_option maxRecDepth 100000 in
theorem dX10_goBack_0_g : dX10_goBack_0_l.all (fun x => decide (decode cX10_goBack x.1 = .ok x.2)) = true := by decide +kernel
noncomputable def dX10_within_0_l : List (Nat × Instr × Nat) := [(0, .iload_n 0, 1), (1, .iload_n 1, 1), (2, .if_icmp .lt 12, 3), (5, .iload_n 0, 1), (6, .iload_n 2, 1), (7, .if_icmp .gt 7, 3), (10, .iconst 1, 1), (11, .goto 4, 3), (14, .iconst 0, 1), (15, .ireturn, 1)]
set_option maxRecDepth 100000 in
theorem dX10_within_0_g : dX10_within_0_l.all (fun x => decide (decode cX10_within x.1 = .ok x.2)) = true := by decide +kernel
set_option maxRecDepth 100000 in
theorem ggX10_isHand_X10_within : GoodIn wsX10_isHand wsX10_within := goodIn_sub (sub_c (nq_m (n := 4) rfl) sub_n) gw_X10_within
set_option maxRecDepth 100000 in
theorem gX10_isHand_X10_within : GoodIn wsX10_isHand (va_wsS RX10 67 yX10_within wsX10_within) := goodIn_app (goodIn_sub (sub_c (nq_m (n := 1) rfl) (sub_c (nq_m (n := 2) rfl) (sub_c (nq_m (n := 3) rfl) sub_n))) (by decide +kernel)) ggX10_isHand_X10_within
noncomputable def dX10_isHand_0_l : List (Nat × Instr × Nat) := [(0, .iload_n 0, 1), (1, .iconst 0, 1), (2, .iconst 3, 1), (3, .invokestatic 67, 3), (6, .ireturn, 1)]
set_option maxRecDepth 100000 in
theorem dX10_isHand_0_g : dX10_isHand_0_l.all (fun x => decide (decode cX10_isHand x.1 = .ok x.2)) = true := by decide +kernel
set_option maxRecDepth 100000 in
theorem ggX10_imageOf_X10_within : GoodIn wsX10_imageOf wsX10_within := goodIn_sub (sub_c (nq_m (n := 6) rfl) sub_n) gw_X10_within
set_option maxRecDepth 100000 in
theorem gX10_imageOf_X10_within : GoodIn wsX10_imageOf (va_wsS RX10 67 yX10_within wsX10_within) := goodIn_app (goodIn_sub (sub_c (nq_m (n := 3) rfl) (sub_c (nq_m (n := 4) rfl) (sub_c (nq_m (n := 5) rfl) sub_n))) (by decide +kernel)) ggX10_imageOf_X10_within
noncomputable def dX10_imageOf_0_l : List (Nat × Instr × Nat) := [(0, .iload_n 1, 1), (1, .iconst 0, 1), (2, .iconst 1, 1), (3, .invokestatic 67, 3), (6, .ifCond .ne 5, 3), (9, .aconst_null, 1), (10, .areturn, 1), (11, .iload_n 1, 1), (12, .ifCond .ne 10, 3), (15, .aload_n 0, 1), (16, .getfield 30, 3), (19, .goto 7, 3), (22, .aload_n 0, 1), (23, .getfield 33, 3), (26, .areturn, 1)]
set_option maxRecDepth 100000 in
theorem dX10_imageOf_0_g : dX10_imageOf_0_l.all (fun x => decide (decode cX10_imageOf x.1 = .ok x.2)) = true := by decide +kernel
set_option maxRecDepth 100000 in
theorem ggX10_expectedOf_X2_knows : GoodIn wsX10_expectedOf wsX2_knows := goodIn_sub (sub_g [(9, [0, 42, 0, 0, 0, 0, 0, 0, 0])] rfl) gw_X2_knows
set_option maxRecDepth 100000 in
theorem gX10_expectedOf_X2_knows : GoodIn wsX10_expectedOf (wsV RX10 158 RX2 yX2_knows wsX2_knows) := goodIn_app (goodIn_sub (sub_c (nq_m (n := 5) rfl) (sub_c (nq_m (n := 6) rfl) (sub_c (nq_m (n := 7) rfl) (sub_c (nq_m (n := 8) rfl) sub_n)))) (by decide +kernel)) ggX10_expectedOf_X2_knows
set_option maxRecDepth 100000 in
theorem gw_X10_oddsInPlace : wsX10_oddsInPlace.all goodWord = true := by decide +kernel
set_option maxRecDepth 100000 in
theorem ggX10_expectedOf_X10_oddsInPlace : GoodIn wsX10_expectedOf wsX10_oddsInPlace := goodIn_sub (sub_g [(15, [0]), (4, []), (1, [15, 0, 0, 0, 0, 0, 0, 0, 0]), (14, [11, 0, 0, 0, 0, 0, 0, 5, 0, 0, 0, 0, 0, 0, 0, 0, 0, 0, 0, 0, 0, 0, 8, 0, 0, 0, 0, 0, 0, 0, 0])] rfl) gw_X10_oddsInPlace
set_option maxRecDepth 100000 in
theorem gX10_expectedOf_X10_oddsInPlace : GoodIn wsX10_expectedOf (wsV RX10 319 RX10 yX10_oddsInPlace wsX10_oddsInPlace) := goodIn_app (goodIn_sub (sub_c (nq_m (n := 11) rfl) (sub_c (nq_m (n := 12) rfl) (sub_c (nq_m (n := 13) rfl) (sub_c (nq_m (n := 14) rfl) sub_n)))) (by decide +kernel)) ggX10_expectedOf_X10_oddsInPlace
set_option maxRecDepth 100000 in
theorem ggX10_expectedOf_X3_weightOf : GoodIn wsX10_expectedOf wsX3_weightOf := goodIn_sub (sub_g [(36, [0]), (25, []), (14, [11, 34, 0, 0, 0, 0, 0, 0])] rfl) gw_X3_weightOf
set_option maxRecDepth 100000 in
theorem gX10_expectedOf_X3_weightOf : GoodIn wsX10_expectedOf (wsV RX10 151 RX3 yX3_weightOf wsX3_weightOf) := goodIn_app (goodIn_sub (sub_c (nq_m (n := 33) rfl) (sub_c (nq_m (n := 34) rfl) (sub_c (nq_m (n := 35) rfl) (sub_c (nq_m (n := 22) rfl) sub_n)))) (by decide +kernel)) ggX10_expectedOf_X3_weightOf
noncomputable def dX10_expectedOf_0_l : List (Nat × Instr × Nat) := [(0, .aload_n 0, 1), (1, .getfield 26, 3), (4, .getfield 116, 3), (7, .iload_n 1, 1), (8, .invokevirtual 158, 3), (11, .ifCond .ne 5, 3), (14, .iconst 0, 1), (15, .ireturn, 1), (16, .iconst 0, 1), (17, .istore_n 2, 1), (18, .iconst 0, 1), (19, .istore_n 3, 1), (20, .iload_n 3, 1), (21, .iconst 3, 1), (22, .if_icmp .ge 38, 3), (25, .iload_n 2, 1), (26, .aload_n 0, 1), (27, .aload_n 0, 1), (28, .getfield 26, 3), (31, .getfield 116, 3), (34, .getfield 161, 3), (37, .iload_n 1, 1), (38, .iaload, 1), (39, .iload_n 3, 1), (40, .invokevirtual 319, 3), (43, .aload_n 0, 1), (44, .getfield 10, 3), (47, .iload_n 3, 1), (48, .invokevirtual 151, 3), (51, .imul, 1), (52, .iadd, 1), (53, .istore_n 2, 1), (54, .iinc 3 1, 3), (57, .goto (-37), 3), (60, .iload_n 2, 1), (61, .ireturn, 1)]
set_option maxRecDepth 100000 in
theorem dX10_expectedOf_0_g : dX10_expectedOf_0_l.all (fun x => decide (decode cX10_expectedOf x.1 = .ok x.2)) = true := by decide +kernel
set_option maxRecDepth 100000 in
theorem ggX10_oddsInPlace_X3_shareOf : GoodIn wsX10_oddsInPlace wsX3_shareOf := goodIn_sub (sub_g [(10, [0, 0, 0, 0, 21, 0, 0, 0, 0, 0, 0])] rfl) gw_X3_shareOf
set_option maxRecDepth 100000 in
theorem gX10_oddsInPlace_X3_shareOf : GoodIn wsX10_oddsInPlace (wsV RX10 126 RX3 yX3_shareOf wsX3_shareOf) := goodIn_app (goodIn_sub (sub_c (nq_m (n := 6) rfl) (sub_c (nq_m (n := 7) rfl) (sub_c (nq_m (n := 8) rfl) (sub_c (nq_m (n := 9) rfl) sub_n)))) (by decide +kernel)) ggX10_oddsInPlace_X3_shareOf
set_option maxRecDepth 100000 in
theorem ggX10_oddsInPlace_X6_oddsOf : GoodIn wsX10_oddsInPlace wsX6_oddsOf := goodIn_sub (sub_g [(19, [0]), (12, [0, 0, 28, 0])] rfl) gw_X6_oddsOf
set_option maxRecDepth 100000 in
theorem gX10_oddsInPlace_X6_oddsOf : GoodIn wsX10_oddsInPlace (wsV RX10 202 RX6 yX6_oddsOf wsX6_oddsOf) := goodIn_app (goodIn_sub (sub_c (nq_m (n := 15) rfl) (sub_c (nq_m (n := 16) rfl) (sub_c (nq_m (n := 17) rfl) (sub_c (nq_m (n := 18) rfl) sub_n)))) (by decide +kernel)) ggX10_oddsInPlace_X6_oddsOf
noncomputable def dX10_oddsInPlace_0_l : List (Nat × Instr × Nat) := [(0, .aload_n 0, 1), (1, .getfield 57, 3), (4, .iconst (-1), 1), (5, .if_icmp .ne 13, 3), (8, .aload_n 0, 1), (9, .getfield 10, 3), (12, .iload_n 1, 1), (13, .iload_n 2, 1), (14, .invokevirtual 126, 3), (17, .ireturn, 1), (18, .aload_n 0, 1), (19, .getfield 26, 3), (22, .getfield 138, 3), (25, .aload_n 0, 1), (26, .getfield 57, 3), (29, .aload_n 0, 1), (30, .getfield 61, 3), (33, .iload_n 2, 1), (34, .invokevirtual 202, 3), (37, .ireturn, 1)]
set_option maxRecDepth 100000 in
theorem dX10_oddsInPlace_0_g : dX10_oddsInPlace_0_l.all (fun x => decide (decode cX10_oddsInPlace x.1 = .ok x.2)) = true := by decide +kernel
set_option maxRecDepth 100000 in
theorem ggX10_mayHang_X1_find : GoodIn wsX10_mayHang wsX1_find := goodIn_sub (sub_g [(10, [0, 0, 0, 0]), (9, [5, 0, 0, 0, 0, 0, 0, 0, 0, 49, 0])] rfl) gw_X1_find
set_option maxRecDepth 100000 in
theorem gX10_mayHang_X1_find : GoodIn wsX10_mayHang (wsV RX10 322 RX1 yX1_find wsX1_find) := goodIn_app (goodIn_sub (sub_c (nq_m (n := 6) rfl) (sub_c (nq_m (n := 7) rfl) (sub_c (nq_m (n := 8) rfl) (sub_c (nq_m (n := 9) rfl) sub_n)))) (by decide +kernel)) ggX10_mayHang_X1_find
set_option maxRecDepth 100000 in
theorem ggX10_mayHang_X0_isOf : GoodIn wsX10_mayHang wsX0_isOf := goodIn_sub (sub_g [(28, [0, 0, 44, 0, 0, 0])] rfl) gw_X0_isOf
set_option maxRecDepth 100000 in
theorem gX10_mayHang_X0_isOf : GoodIn wsX10_mayHang (wsV RX10 283 RX0 yX0_isOf wsX0_isOf) := goodIn_app (goodIn_sub (sub_c (nq_m (n := 24) rfl) (sub_c (nq_m (n := 25) rfl) (sub_c (nq_m (n := 26) rfl) (sub_c (nq_m (n := 27) rfl) sub_n)))) (by decide +kernel)) ggX10_mayHang_X0_isOf
set_option maxRecDepth 100000 in
theorem ggX10_mayHang_X2_kindOf : GoodIn wsX10_mayHang wsX2_kindOf := goodIn_sub (sub_g [(35, [0, 0, 0, 0]), (34, [5, 0, 37, 0, 0, 0, 0, 0, 0, 0])] rfl) gw_X2_kindOf
set_option maxRecDepth 100000 in
theorem gX10_mayHang_X2_kindOf : GoodIn wsX10_mayHang (wsV RX10 325 RX2 yX2_kindOf wsX2_kindOf) := goodIn_app (goodIn_sub (sub_c (nq_m (n := 31) rfl) (sub_c (nq_m (n := 32) rfl) (sub_c (nq_m (n := 33) rfl) (sub_c (nq_m (n := 34) rfl) sub_n)))) (by decide +kernel)) ggX10_mayHang_X2_kindOf
set_option maxRecDepth 100000 in
theorem ggX10_mayHang_X3_isOfKind : GoodIn wsX10_mayHang wsX3_isOfKind := goodIn_sub (sub_g [(46, [0, 0, 0, 0]), (45, [5, 0, 34, 0, 0, 0, 0, 0, 0])] rfl) gw_X3_isOfKind
