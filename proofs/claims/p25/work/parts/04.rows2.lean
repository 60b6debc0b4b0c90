set_option maxRecDepth 100000 in
theorem gX10_mayHang_X3_isOfKind : GoodIn wsX10_mayHang (wsV RX10 328 RX3 yX3_isOfKind wsX3_isOfKind) := goodIn_app (goodIn_sub (sub_c (nq_m (n := 42) rfl) (sub_c (nq_m (n := 43) rfl) (sub_c (nq_m (n := 44) rfl) (sub_c (nq_m (n := 45) rfl) sub_n)))) (by decide +kernel)) ggX10_mayHang_X3_isOfKind
set_option maxRecDepth 100000 in
theorem ggX10_mayHang_X2_ownerOn : GoodIn wsX10_mayHang wsX2_ownerOn := goodIn_sub (sub_g [(56, []), (41, [15, 21, 0, 0, 0, 0, 0, 0, 0])] rfl) gw_X2_ownerOn
set_option maxRecDepth 100000 in
theorem gX10_mayHang_X2_ownerOn : GoodIn wsX10_mayHang (wsV RX10 120 RX2 yX2_ownerOn wsX2_ownerOn) := goodIn_app (goodIn_sub (sub_c (nq_m (n := 53) rfl) (sub_c (nq_m (n := 54) rfl) (sub_c (nq_m (n := 55) rfl) (sub_c (nq_m (n := 34) rfl) sub_n)))) (by decide +kernel)) ggX10_mayHang_X2_ownerOn
noncomputable def dX10_mayHang_0_l : List (Nat × Instr × Nat) := [(0, .aload_n 0, 1), (1, .getfield 26, 3), (4, .getfield 78, 3), (7, .iconst 0, 1), (8, .iload_n 1, 1), (9, .invokevirtual 322, 3), (12, .iconst (-1), 1), (13, .if_icmp .ne 17, 3), (16, .aload_n 0, 1), (17, .getfield 26, 3), (20, .getfield 131, 3), (23, .iload_n 1, 1), (24, .invokevirtual 283, 3), (27, .ifCond .eq 5, 3), (30, .iconst 0, 1), (31, .ireturn, 1), (32, .aload_n 0, 1), (33, .getfield 10, 3), (36, .iload_n 2, 1), (37, .aload_n 0, 1), (38, .getfield 26, 3), (41, .getfield 116, 3), (44, .iload_n 1, 1), (45, .invokevirtual 325, 3), (48, .invokevirtual 328, 3), (51, .ifCond .eq 22, 3), (54, .aload_n 0, 1), (55, .getfield 26, 3), (58, .getfield 116, 3), (61, .iload_n 2, 1), (62, .invokevirtual 120, 3), (65, .iconst (-1), 1), (66, .if_icmp .ne 7, 3), (69, .iconst 1, 1), (70, .goto 4, 3), (73, .iconst 0, 1), (74, .ireturn, 1)]
set_option maxRecDepth 100000 in
theorem dX10_mayHang_0_g : dX10_mayHang_0_l.all (fun x => decide (decode cX10_mayHang x.1 = .ok x.2)) = true := by decide +kernel
set_option maxRecDepth 100000 in
theorem ggX10_allHang_X2_hangs : GoodIn wsX10_allHang wsX2_hangs := goodIn_sub (sub_g [(8, [0, 0, 0, 0]), (7, [5, 0, 15, 0, 0, 0, 0, 0, 0, 0])] rfl) gw_X2_hangs
set_option maxRecDepth 100000 in
theorem gX10_allHang_X2_hangs : GoodIn wsX10_allHang (wsV RX10 331 RX2 yX2_hangs wsX2_hangs) := goodIn_app (goodIn_sub (sub_c (nq_m (n := 4) rfl) (sub_c (nq_m (n := 5) rfl) (sub_c (nq_m (n := 6) rfl) (sub_c (nq_m (n := 7) rfl) sub_n)))) (by decide +kernel)) ggX10_allHang_X2_hangs
noncomputable def dX10_allHang_0_l : List (Nat × Instr × Nat) := [(0, .iconst 0, 1), (1, .istore_n 2, 1), (2, .iconst 0, 1), (3, .istore_n 3, 1), (4, .iload_n 3, 1), (5, .aload_n 0, 1), (6, .getfield 26, 3), (9, .getfield 116, 3), (12, .getfield 130, 3), (15, .if_icmp .ge 29, 3), (18, .aload_n 0, 1), (19, .getfield 26, 3), (22, .getfield 116, 3), (25, .iload_n 3, 1), (26, .invokevirtual 331, 3), (29, .ifCond .eq 9, 3), (32, .iload_n 2, 1), (33, .iconst 1, 1), (34, .iload_n 3, 1), (35, .ishl, 1), (36, .ior, 1), (37, .istore_n 2, 1), (38, .iinc 3 1, 3), (41, .goto (-37), 3), (44, .iload_n 1, 1), (45, .iload_n 2, 1), (46, .iconst (-1), 1), (47, .ixor, 1), (48, .iand, 1), (49, .ifCond .ne 7, 3), (52, .iconst 1, 1), (53, .goto 4, 3), (56, .iconst 0, 1), (57, .ireturn, 1)]
set_option maxRecDepth 100000 in
theorem dX10_allHang_0_g : dX10_allHang_0_l.all (fun x => decide (decode cX10_allHang x.1 = .ok x.2)) = true := by decide +kernel
set_option maxRecDepth 100000 in
theorem gw_X11_bare : wsX11_bare.all goodWord = true := by decide +kernel
set_option maxRecDepth 100000 in
theorem ggX11_init_X11_bare : GoodIn wsX11_init wsX11_bare := goodIn_sub (sub_g [(46, [0, 0, 0]), (13, [0, 41, 0, 0, 0, 0, 0, 0, 0, 0, 0, 0, 0, 0, 0, 0, 0, 0, 0, 0, 0, 0, 0, 0, 0, 0, 0, 0, 0, 0, 0, 0, 0, 0, 0, 0, 0, 0, 0, 0, 0, 0, 0, 0, 0, 0, 0, 0, 0, 0, 0, 0, 0, 0, 0, 0, 0, 0, 0])] rfl) gw_X11_bare
set_option maxRecDepth 100000 in
theorem gX11_init_X11_bare : GoodIn wsX11_init (wsV RX11 118 RX11 yX11_bare wsX11_bare) := goodIn_app (goodIn_sub (sub_c (nq_m (n := 42) rfl) (sub_c (nq_m (n := 43) rfl) (sub_c (nq_m (n := 44) rfl) (sub_c (nq_m (n := 45) rfl) sub_n)))) (by decide +kernel)) ggX11_init_X11_bare
set_option maxRecDepth 100000 in
theorem gw_X11_keepHall : wsX11_keepHall.all goodWord = true := by decide +kernel
set_option maxRecDepth 100000 in
theorem ggX11_init_X11_keepHall : GoodIn wsX11_init wsX11_keepHall := goodIn_sub (sub_g [(53, []), (47, [6]), (5, [5]), (6, [5]), (7, [5]), (8, [5, 40, 0, 0, 0, 0, 0, 0, 0, 0, 0, 0, 0, 0, 0, 0, 0, 0, 0, 0, 0, 0, 0, 0, 0, 0, 0, 0, 0, 0, 0, 0, 0, 0, 0, 0, 0, 0, 0, 0, 0, 0, 0, 0, 0, 0, 0, 0, 0, 0, 0, 0, 0, 0, 0, 0, 0, 0, 0, 0])] rfl) gw_X11_keepHall
set_option maxRecDepth 100000 in
theorem gX11_init_X11_keepHall : GoodIn wsX11_init (wsV RX11 121 RX11 yX11_keepHall wsX11_keepHall) := goodIn_app (goodIn_sub (sub_c (nq_m (n := 50) rfl) (sub_c (nq_m (n := 51) rfl) (sub_c (nq_m (n := 52) rfl) (sub_c (nq_m (n := 45) rfl) sub_n)))) (by decide +kernel)) ggX11_init_X11_keepHall
noncomputable def dX11_init_0_l : List (Nat × Instr × Nat) := [(0, .aload_n 0, 1), (1, .invokespecial 1, 3), (4, .aload_n 0, 1), (5, .bipush 24, 2), (7, .newarray .int, 2), (9, .putfield 7, 3), (12, .aload_n 0, 1), (13, .bipush 24, 2), (15, .newarray .int, 2), (17, .putfield 13, 3), (20, .aload_n 0, 1), (21, .bipush 12, 2), (23, .newarray .int, 2), (25, .putfield 16, 3), (28, .aload_n 0, 1), (29, .iconst 5, 1), (30, .newarray .int, 2), (32, .putfield 19, 3), (35, .aload_n 0, 1), (36, .sipush 240, 3), (39, .newarray .int, 2), (41, .putfield 22, 3), (44, .aload_n 0, 1), (45, .iconst (-1), 1), (46, .putfield 25, 3), (49, .aload_n 0, 1), (50, .bipush 24, 2), (52, .newarray .int, 2), (54, .putfield 29, 3), (57, .aload_n 0, 1), (58, .bipush 24, 2), (60, .newarray .int, 2), (62, .putfield 32, 3), (65, .aload_n 0, 1), (66, .bipush 12, 2), (68, .newarray .int, 2), (70, .putfield 35, 3), (73, .aload_n 0, 1), (74, .iconst 5, 1), (75, .newarray .int, 2)]
set_option maxRecDepth 100000 in
theorem dX11_init_0_g : dX11_init_0_l.all (fun x => decide (decode cX11_init x.1 = .ok x.2)) = true := by decide +kernel
noncomputable def dX11_init_77_l : List (Nat × Instr × Nat) := [(77, .putfield 38, 3), (80, .aload_n 0, 1), (81, .bipush 24, 2), (83, .newarray .int, 2), (85, .putfield 41, 3), (88, .aload_n 0, 1), (89, .bipush 16, 2), (91, .newarray .int, 2), (93, .putfield 44, 3), (96, .aload_n 0, 1), (97, .bipush 16, 2), (99, .newarray .int, 2), (101, .putfield 47, 3), (104, .aload_n 0, 1), (105, .bipush 16, 2), (107, .newarray .int, 2), (109, .putfield 50, 3), (112, .aload_n 0, 1), (113, .bipush 16, 2), (115, .newarray .int, 2), (117, .putfield 53, 3), (120, .aload_n 0, 1), (121, .bipush 16, 2), (123, .newarray .int, 2), (125, .putfield 56, 3), (128, .aload_n 0, 1), (129, .bipush 16, 2), (131, .newarray .int, 2), (133, .putfield 59, 3), (136, .aload_n 0, 1), (137, .bipush 16, 2), (139, .newarray .int, 2), (141, .putfield 62, 3), (144, .aload_n 0, 1), (145, .iconst (-1), 1), (146, .putfield 65, 3), (149, .aload_n 0, 1), (150, .bipush 16, 2), (152, .newarray .int, 2), (154, .putfield 68, 3)]
set_option maxRecDepth 100000 in
theorem dX11_init_77_g : dX11_init_77_l.all (fun x => decide (decode cX11_init x.1 = .ok x.2)) = true := by decide +kernel
noncomputable def dX11_init_157_l : List (Nat × Instr × Nat) := [(157, .aload_n 0, 1), (158, .bipush 24, 2), (160, .newarray .boolean, 2), (162, .putfield 71, 3), (165, .aload_n 0, 1), (166, .bipush 60, 2), (168, .newarray .int, 2), (170, .putfield 75, 3), (173, .aload_n 0, 1), (174, .bipush 60, 2), (176, .newarray .int, 2), (178, .putfield 78, 3), (181, .aload_n 0, 1), (182, .sipush 180, 3), (185, .newarray .int, 2), (187, .putfield 81, 3), (190, .aload_n 0, 1), (191, .sipush 420, 3), (194, .newarray .int, 2), (196, .putfield 84, 3), (199, .aload_n 0, 1), (200, .bipush 17, 2), (202, .newarray .int, 2), (204, .putfield 87, 3), (207, .aload_n 0, 1), (208, .bipush 16, 2), (210, .newarray .int, 2), (212, .putfield 90, 3), (215, .aload_n 0, 1), (216, .iconst 4, 1), (217, .newarray .int, 2), (219, .putfield 93, 3), (222, .aload_n 0, 1), (223, .bipush 7, 2), (225, .newarray .int, 2), (227, .putfield 96, 3), (230, .aload_n 0, 1), (231, .bipush 6, 2), (233, .newarray .int, 2), (235, .putfield 99, 3)]
set_option maxRecDepth 100000 in
theorem dX11_init_157_g : dX11_init_157_l.all (fun x => decide (decode cX11_init x.1 = .ok x.2)) = true := by decide +kernel
noncomputable def dX11_init_238_l : List (Nat × Instr × Nat) := [(238, .aload_n 0, 1), (239, .bipush 6, 2), (241, .newarray .int, 2), (243, .putfield 102, 3), (246, .aload_n 0, 1), (247, .bipush 6, 2), (249, .newarray .int, 2), (251, .putfield 105, 3), (254, .aload_n 0, 1), (255, .bipush 64, 2), (257, .newarray .long, 2), (259, .putfield 108, 3), (262, .aload_n 0, 1), (263, .sipush 1800, 3), (266, .newarray .int, 2), (268, .putfield 112, 3), (271, .aload_n 0, 1), (272, .iconst 2, 1), (273, .newarray .boolean, 2), (275, .putfield 115, 3), (278, .aload_n 0, 1), (279, .invokevirtual 118, 3), (282, .aload_n 0, 1), (283, .invokevirtual 121, 3), (286, .iconst 0, 1), (287, .istore_n 1, 1), (288, .iload_n 1, 1), (289, .bipush 24, 2), (291, .if_icmp .ge 16, 3), (294, .aload_n 0, 1), (295, .getfield 41, 3), (298, .iload_n 1, 1), (299, .iconst (-1), 1), (300, .iastore, 1), (301, .iinc 1 1, 3), (304, .goto (-16), 3), (307, .return_, 1)]
set_option maxRecDepth 100000 in
theorem dX11_init_238_g : dX11_init_238_l.all (fun x => decide (decode cX11_init x.1 = .ok x.2)) = true := by decide +kernel
noncomputable def dX11_in_0_l : List (Nat × Instr × Nat) := [(0, .lload_n 0, 1), (1, .lload_n 2, 1), (2, .lcmp, 1), (3, .ifCond .lt 14, 3), (6, .lload_n 0, 1), (7, .lload 4, 2), (9, .lcmp, 1), (10, .ifCond .gt 7, 3), (13, .iconst 1, 1), (14, .goto 4, 3), (17, .iconst 0, 1), (18, .ireturn, 1)]
set_option maxRecDepth 100000 in
theorem dX11_in_0_g : dX11_in_0_l.all (fun x => decide (decode cX11_in x.1 = .ok x.2)) = true := by decide +kernel
noncomputable def dX11_bits_0_l : List (Nat × Instr × Nat) := [(0, .iconst 0, 1), (1, .istore_n 1, 1), (2, .iconst 0, 1), (3, .istore_n 2, 1), (4, .iload_n 2, 1), (5, .bipush 16, 2), (7, .if_icmp .ge 17, 3), (10, .iload_n 1, 1), (11, .iload_n 0, 1), (12, .iload_n 2, 1), (13, .ishr, 1), (14, .iconst 1, 1), (15, .iand, 1), (16, .iadd, 1), (17, .istore_n 1, 1), (18, .iinc 2 1, 3), (21, .goto (-17), 3), (24, .iload_n 1, 1), (25, .ireturn, 1)]
set_option maxRecDepth 100000 in
theorem dX11_bits_0_g : dX11_bits_0_l.all (fun x => decide (decode cX11_bits x.1 = .ok x.2)) = true := by decide +kernel
set_option maxRecDepth 100000 in
theorem gw_X11_in : wsX11_in.all goodWord = true := by decide +kernel
set_option maxRecDepth 100000 in
theorem ggX11_feed_X11_in : GoodIn wsX11_feed wsX11_in := goodIn_sub (sub_c (nq_m (n := 8) rfl) sub_n) gw_X11_in
set_option maxRecDepth 100000 in
theorem gX11_feed_X11_in : GoodIn wsX11_feed (va_wsS RX11 126 yX11_in wsX11_in) := goodIn_app (goodIn_sub (sub_c (nq_m (n := 5) rfl) (sub_c (nq_m (n := 6) rfl) (sub_c (nq_m (n := 7) rfl) sub_n))) (by decide +kernel)) ggX11_feed_X11_in
noncomputable def dX11_feed_0_l : List (Nat × Instr × Nat) := [(0, .iload_n 1, 1), (1, .i2l, 1), (2, .lconst 1, 1), (3, .ldc2_w 124, 3), (6, .invokestatic 126, 3), (9, .ifCond .ne 7, 3), (12, .sipush (-1002), 3), (15, .ireturn, 1), (16, .aload_n 0, 1), (17, .getfield 130, 3), (20, .iload_n 1, 1), (21, .iadd, 1), (22, .sipush 240, 3), (25, .if_icmp .le 7, 3), (28, .sipush (-1004), 3), (31, .ireturn, 1), (32, .iload_n 1, 1), (33, .iconst 1, 1), (34, .isub, 1), (35, .istore 4, 2), (37, .iload 4, 2), (39, .ifCond .lt 40, 3), (42, .aload_n 0, 1), (43, .getfield 22, 3), (46, .aload_n 0, 1), (47, .getfield 130, 3), (50, .lload_n 2, 1), (51, .bipush 8, 2), (53, .iload 4, 2), (55, .imul, 1), (56, .lshr, 1), (57, .ldc2_w 133, 3), (60, .land, 1), (61, .l2i, 1), (62, .iastore, 1), (63, .aload_n 0, 1), (64, .dup, 1), (65, .getfield 130, 3), (68, .iconst 1, 1), (69, .iadd, 1)]
set_option maxRecDepth 100000 in
theorem dX11_feed_0_g : dX11_feed_0_l.all (fun x => decide (decode cX11_feed x.1 = .ok x.2)) = true := by decide +kernel
noncomputable def dX11_feed_70_l : List (Nat × Instr × Nat) := [(70, .putfield 130, 3), (73, .iinc 4 (-1), 3), (76, .goto (-39), 3), (79, .aload_n 0, 1), (80, .getfield 130, 3), (83, .ireturn, 1)]
set_option maxRecDepth 100000 in
theorem dX11_feed_70_g : dX11_feed_70_l.all (fun x => decide (decode cX11_feed x.1 = .ok x.2)) = true := by decide +kernel
noncomputable def dX11_here_0_l : List (Nat × Instr × Nat) := [(0, .aload_n 0, 1), (1, .getfield 135, 3), (4, .aload_n 0, 1), (5, .getfield 130, 3), (8, .if_icmp .ge 30, 3), (11, .aload_n 0, 1), (12, .getfield 22, 3), (15, .aload_n 0, 1), (16, .getfield 135, 3), (19, .iaload, 1), (20, .bipush 32, 2), (22, .if_icmp .ne 16, 3), (25, .aload_n 0, 1), (26, .dup, 1), (27, .getfield 135, 3), (30, .iconst 1, 1), (31, .iadd, 1), (32, .putfield 135, 3), (35, .goto (-35), 3), (38, .aload_n 0, 1), (39, .getfield 135, 3), (42, .aload_n 0, 1), (43, .getfield 130, 3), (46, .if_icmp .ge 15, 3), (49, .aload_n 0, 1), (50, .getfield 22, 3), (53, .aload_n 0, 1), (54, .getfield 135, 3), (57, .iaload, 1), (58, .goto 4, 3), (61, .iconst (-1), 1), (62, .ireturn, 1)]
set_option maxRecDepth 100000 in
theorem dX11_here_0_g : dX11_here_0_l.all (fun x => decide (decode cX11_here x.1 = .ok x.2)) = true := by decide +kernel
noncomputable def dX11_fails_0_l : List (Nat × Instr × Nat) := [(0, .aload_n 0, 1), (1, .iload_n 2, 1), (2, .putfield 25, 3), (5, .iload_n 1, 1), (6, .ireturn, 1)]
set_option maxRecDepth 100000 in
theorem dX11_fails_0_g : dX11_fails_0_l.all (fun x => decide (decode cX11_fails x.1 = .ok x.2)) = true := by decide +kernel
set_option maxRecDepth 100000 in
theorem gw_X11_here : wsX11_here.all goodWord = true := by decide +kernel
set_option maxRecDepth 100000 in
theorem ggX11_readWord_X11_here : GoodIn wsX11_readWord wsX11_here := goodIn_sub (sub_g [(16, []), (2, [1, 0, 14, 0, 0, 0, 0, 0, 0, 0, 0, 0, 0, 0, 0, 0, 0, 0, 0, 0, 0, 0, 0, 0, 0, 0, 0, 0, 0, 0, 0, 0, 0, 0, 0, 0, 0, 0, 0, 0, 0, 0, 0, 0, 0, 0, 0, 0, 0, 0, 0, 0, 0, 0, 0, 0, 0, 0, 0, 0])] rfl) gw_X11_here
set_option maxRecDepth 100000 in
theorem gX11_readWord_X11_here : GoodIn wsX11_readWord (wsV RX11 138 RX11 yX11_here wsX11_here) := goodIn_app (goodIn_sub (sub_c (nq_m (n := 12) rfl) (sub_c (nq_m (n := 13) rfl) (sub_c (nq_m (n := 14) rfl) (sub_c (nq_m (n := 15) rfl) sub_n)))) (by decide +kernel)) ggX11_readWord_X11_here
set_option maxRecDepth 100000 in
theorem ggX11_readWord_X11_in : GoodIn wsX11_readWord wsX11_in := goodIn_sub (sub_c (nq_m (n := 19) rfl) sub_n) gw_X11_in
set_option maxRecDepth 100000 in
theorem gX11_readWord_X11_in : GoodIn wsX11_readWord (va_wsS RX11 126 yX11_in wsX11_in) := goodIn_app (goodIn_sub (sub_c (nq_m (n := 17) rfl) (sub_c (nq_m (n := 18) rfl) (sub_c (nq_m (n := 15) rfl) sub_n))) (by decide +kernel)) ggX11_readWord_X11_in
noncomputable def dX11_readWord_0_l : List (Nat × Instr × Nat) := [(0, .aload_n 0, 1), (1, .invokevirtual 138, 3), (4, .istore_n 1, 1), (5, .aload_n 0, 1), (6, .lconst 0, 1), (7, .putfield 142, 3), (10, .aload_n 0, 1), (11, .aload_n 0, 1), (12, .getfield 135, 3), (15, .putfield 146, 3), (18, .aload_n 0, 1), (19, .getfield 146, 3), (22, .aload_n 0, 1), (23, .getfield 130, 3), (26, .if_icmp .ge 82, 3), (29, .aload_n 0, 1), (30, .getfield 22, 3), (33, .aload_n 0, 1), (34, .getfield 146, 3), (37, .iaload, 1), (38, .i2l, 1), (39, .ldc2_w 149, 3), (42, .ldc2_w 151, 3), (45, .invokestatic 126, 3), (48, .ifCond .eq 60, 3), (51, .aload_n 0, 1), (52, .aload_n 0, 1), (53, .getfield 142, 3), (56, .ldc2_w 153, 3), (59, .lcmp, 1), (60, .ifCond .le 9, 3), (63, .ldc2_w 155, 3), (66, .goto 26, 3), (69, .ldc2_w 157, 3), (72, .aload_n 0, 1), (73, .getfield 142, 3), (76, .lmul, 1), (77, .aload_n 0, 1), (78, .getfield 22, 3), (81, .aload_n 0, 1)]
set_option maxRecDepth 100000 in
theorem dX11_readWord_0_g : dX11_readWord_0_l.all (fun x => decide (decode cX11_readWord x.1 = .ok x.2)) = true := by decide +kernel
noncomputable def dX11_readWord_82_l : List (Nat × Instr × Nat) := [(82, .getfield 146, 3), (85, .iaload, 1), (86, .i2l, 1), (87, .ladd, 1), (88, .ldc2_w 159, 3), (91, .lsub, 1), (92, .putfield 142, 3), (95, .aload_n 0, 1), (96, .dup, 1), (97, .getfield 146, 3), (100, .iconst 1, 1), (101, .iadd, 1), (102, .putfield 146, 3), (105, .goto (-87), 3), (108, .return_, 1)]
set_option maxRecDepth 100000 in
theorem dX11_readWord_82_g : dX11_readWord_82_l.all (fun x => decide (decode cX11_readWord x.1 = .ok x.2)) = true := by decide +kernel
noncomputable def dX11_code_0_l : List (Nat × Instr × Nat) := [(0, .ldc2_w 157, 3), (3, .ldc2_w 157, 3), (6, .iload_n 0, 1), (7, .i2l, 1), (8, .ldc2_w 159, 3), (11, .lsub, 1), (12, .lmul, 1), (13, .iload_n 1, 1), (14, .i2l, 1), (15, .ladd, 1), (16, .ldc2_w 159, 3), (19, .lsub, 1), (20, .lmul, 1), (21, .iload_n 2, 1), (22, .i2l, 1), (23, .ladd, 1), (24, .ldc2_w 159, 3), (27, .lsub, 1), (28, .lreturn, 1)]
set_option maxRecDepth 100000 in
theorem dX11_code_0_g : dX11_code_0_l.all (fun x => decide (decode cX11_code x.1 = .ok x.2)) = true := by decide +kernel
noncomputable def dX11_longer_0_l : List (Nat × Instr × Nat) := [(0, .ldc2_w 157, 3), (3, .lload_n 0, 1), (4, .lmul, 1), (5, .iload_n 2, 1), (6, .i2l, 1), (7, .ladd, 1), (8, .ldc2_w 159, 3), (11, .lsub, 1), (12, .lreturn, 1)]
set_option maxRecDepth 100000 in
theorem dX11_longer_0_g : dX11_longer_0_l.all (fun x => decide (decode cX11_longer x.1 = .ok x.2)) = true := by decide +kernel
set_option maxRecDepth 100000 in
theorem gw_X11_code : wsX11_code.all goodWord = true := by decide +kernel
set_option maxRecDepth 100000 in
theorem ggX11_clauseOf_X11_code : GoodIn wsX11_clauseOf wsX11_code := goodIn_sub (sub_c (nq_m (n := 5) rfl) (sub_c (nq_m (n := 6) rfl) (sub_c (nq_m (n := 7) rfl) sub_n))) gw_X11_code
set_option maxRecDepth 100000 in
theorem gX11_clauseOf_X11_code : GoodIn wsX11_clauseOf (va_wsS RX11 161 yX11_code wsX11_code) := goodIn_app (goodIn_sub (sub_c (nq_m (n := 2) rfl) (sub_c (nq_m (n := 3) rfl) (sub_c (nq_m (n := 4) rfl) sub_n))) (by decide +kernel)) ggX11_clauseOf_X11_code
set_option maxRecDepth 100000 in
theorem gw_X11_longer : wsX11_longer.all goodWord = true := by decide +kernel
set_option maxRecDepth 100000 in
theorem ggX11_clauseOf_X11_longer : GoodIn wsX11_clauseOf wsX11_longer := goodIn_sub (sub_c (nq_m (n := 10) rfl) (sub_c (nq_m (n := 6) rfl) (sub_c (nq_m (n := 7) rfl) sub_n))) gw_X11_longer
set_option maxRecDepth 100000 in
theorem gX11_clauseOf_X11_longer : GoodIn wsX11_clauseOf (va_wsS RX11 165 yX11_longer wsX11_longer) := goodIn_app (goodIn_sub (sub_c (nq_m (n := 8) rfl) (sub_c (nq_m (n := 9) rfl) (sub_c (nq_m (n := 4) rfl) sub_n))) (by decide +kernel)) ggX11_clauseOf_X11_longer
noncomputable def dX11_clauseOf_0_l : List (Nat × Instr × Nat) := [(0, .bipush 119, 2), (2, .bipush 101, 2), (4, .bipush 105, 2), (6, .invokestatic 161, 3), (9, .bipush 103, 2), (11, .invokestatic 165, 3), (14, .bipush 104, 2), (16, .invokestatic 165, 3), (19, .bipush 116, 2), (21, .invokestatic 165, 3), (24, .bipush 115, 2), (26, .invokestatic 165, 3), (29, .lstore_n 1, 1), (30, .aload_n 0, 1), (31, .getfield 142, 3), (34, .bipush 114, 2), (36, .bipush 111, 2), (38, .bipush 119, 2), (40, .invokestatic 161, 3), (43, .lcmp, 1), (44, .ifCond .ne 7, 3), (47, .iconst 0, 1), (48, .goto 95, 3), (51, .aload_n 0, 1), (52, .getfield 142, 3), (55, .bipush 111, 2), (57, .bipush 100, 2), (59, .bipush 100, 2), (61, .invokestatic 161, 3), (64, .bipush 115, 2), (66, .invokestatic 165, 3), (69, .lcmp, 1), (70, .ifCond .ne 7, 3), (73, .iconst 1, 1), (74, .goto 69, 3), (77, .aload_n 0, 1), (78, .getfield 142, 3), (81, .lload_n 1, 1), (82, .lcmp, 1), (83, .ifCond .ne 7, 3)]
set_option maxRecDepth 100000 in
theorem dX11_clauseOf_0_g : dX11_clauseOf_0_l.all (fun x => decide (decode cX11_clauseOf x.1 = .ok x.2)) = true := by decide +kernel
noncomputable def dX11_clauseOf_86_l : List (Nat × Instr × Nat) := [(86, .iconst 2, 1), (87, .goto 56, 3), (90, .aload_n 0, 1), (91, .getfield 142, 3), (94, .bipush 103, 2), (96, .bipush 105, 2), (98, .bipush 118, 2), (100, .invokestatic 161, 3), (103, .bipush 101, 2), (105, .invokestatic 165, 3), (108, .lcmp, 1), (109, .ifCond .ne 7, 3), (112, .iconst 3, 1), (113, .goto 30, 3), (116, .aload_n 0, 1), (117, .getfield 142, 3), (120, .bipush 108, 2), (122, .bipush 101, 2), (124, .bipush 115, 2), (126, .invokestatic 161, 3), (129, .bipush 115, 2), (131, .invokestatic 165, 3), (134, .lcmp, 1), (135, .ifCond .ne 7, 3), (138, .iconst 4, 1), (139, .goto 4, 3), (142, .iconst (-1), 1), (143, .ireturn, 1)]
set_option maxRecDepth 100000 in
theorem dX11_clauseOf_86_g : dX11_clauseOf_86_l.all (fun x => decide (decode cX11_clauseOf x.1 = .ok x.2)) = true := by decide +kernel
set_option maxRecDepth 100000 in
theorem gw_X11_readWord : wsX11_readWord.all goodWord = true := by decide +kernel
set_option maxRecDepth 100000 in
theorem ggX11_needs_X11_readWord : GoodIn wsX11_needs wsX11_readWord := goodIn_sub (sub_g [(8, []), (1, [0, 0, 5, 0, 0, 0, 0, 0, 0, 0, 0, 0, 0]), (7, [12, 0, 0, 0, 5, 0, 0, 0, 0, 0, 0, 0, 0, 0, 0, 0, 0, 0, 0, 0, 0, 0, 0, 0, 0, 0, 0, 0, 0, 0, 0, 0, 0, 0, 0, 0, 0, 0, 0, 0, 0, 0, 0, 0, 0, 0, 0, 0, 0, 0, 0, 0, 0, 0, 0, 0, 0, 0, 0, 0, 0, 0])] rfl) gw_X11_readWord
set_option maxRecDepth 100000 in
theorem gX11_needs_X11_readWord : GoodIn wsX11_needs (wsV RX11 169 RX11 yX11_readWord wsX11_readWord) := goodIn_app (goodIn_sub (sub_c (nq_m (n := 4) rfl) (sub_c (nq_m (n := 5) rfl) (sub_c (nq_m (n := 6) rfl) (sub_c (nq_m (n := 7) rfl) sub_n)))) (by decide +kernel)) ggX11_needs_X11_readWord
set_option maxRecDepth 100000 in
theorem gw_X11_fails : wsX11_fails.all goodWord = true := by decide +kernel
set_option maxRecDepth 100000 in
theorem ggX11_needs_X11_fails : GoodIn wsX11_needs wsX11_fails := goodIn_sub (sub_g [(27, [0, 0, 0, 0, 0, 0, 0, 0, 0, 0, 0, 0, 0, 0, 0, 0, 0, 0, 0, 0, 0, 0, 0, 0, 0, 0, 0, 0, 0, 0, 0, 0, 0, 0, 0, 0, 0, 0, 0, 0, 0, 0, 0, 0, 0, 0, 0, 0, 0, 0, 0, 0, 0, 0, 0, 0, 0, 0, 0])] rfl) gw_X11_fails
set_option maxRecDepth 100000 in
theorem gX11_needs_X11_fails : GoodIn wsX11_needs (wsV RX11 172 RX11 yX11_fails wsX11_fails) := goodIn_app (goodIn_sub (sub_c (nq_m (n := 24) rfl) (sub_c (nq_m (n := 25) rfl) (sub_c (nq_m (n := 26) rfl) (sub_c (nq_m (n := 7) rfl) sub_n)))) (by decide +kernel)) ggX11_needs_X11_fails
noncomputable def dX11_needs_0_l : List (Nat × Instr × Nat) := [(0, .aload_n 0, 1), (1, .invokevirtual 169, 3), (4, .aload_n 0, 1), (5, .getfield 142, 3), (8, .lload_n 1, 1), (9, .lcmp, 1), (10, .ifCond .eq 13, 3), (13, .aload_n 0, 1), (14, .iconst 1, 1), (15, .aload_n 0, 1), (16, .getfield 135, 3), (19, .invokevirtual 172, 3), (22, .ireturn, 1), (23, .aload_n 0, 1), (24, .aload_n 0, 1), (25, .getfield 146, 3), (28, .putfield 135, 3), (31, .iconst 0, 1), (32, .ireturn, 1)]
set_option maxRecDepth 100000 in
theorem dX11_needs_0_g : dX11_needs_0_l.all (fun x => decide (decode cX11_needs x.1 = .ok x.2)) = true := by decide +kernel
set_option maxRecDepth 100000 in
theorem ggX11_takeNumber_X11_here : GoodIn wsX11_takeNumber wsX11_here := goodIn_sub (sub_g [(12, []), (3, [2, 0, 13, 0, 0, 0, 0, 0, 0, 0, 0, 0, 0, 0, 0, 0, 0, 0, 0, 0, 0, 0, 0, 0, 0, 0, 0, 0, 0, 0, 0, 0, 0, 0, 0, 0, 0, 0, 0, 0, 0, 0, 0, 0, 0, 0, 0, 0, 0, 0, 0, 0, 0, 0, 0, 0, 0, 0, 0, 0])] rfl) gw_X11_here
set_option maxRecDepth 100000 in
theorem gX11_takeNumber_X11_here : GoodIn wsX11_takeNumber (wsV RX11 138 RX11 yX11_here wsX11_here) := goodIn_app (goodIn_sub (sub_c (nq_m (n := 8) rfl) (sub_c (nq_m (n := 9) rfl) (sub_c (nq_m (n := 10) rfl) (sub_c (nq_m (n := 11) rfl) sub_n)))) (by decide +kernel)) ggX11_takeNumber_X11_here
set_option maxRecDepth 100000 in
theorem ggX11_takeNumber_X11_in : GoodIn wsX11_takeNumber wsX11_in := goodIn_sub (sub_c (nq_m (n := 15) rfl) sub_n) gw_X11_in
set_option maxRecDepth 100000 in
theorem gX11_takeNumber_X11_in : GoodIn wsX11_takeNumber (va_wsS RX11 126 yX11_in wsX11_in) := goodIn_app (goodIn_sub (sub_c (nq_m (n := 13) rfl) (sub_c (nq_m (n := 14) rfl) (sub_c (nq_m (n := 11) rfl) sub_n))) (by decide +kernel)) ggX11_takeNumber_X11_in
set_option maxRecDepth 100000 in
theorem ggX11_takeNumber_X11_fails : GoodIn wsX11_takeNumber wsX11_fails := goodIn_sub (sub_g [(19, [0, 0, 0, 0, 0, 0, 0, 0, 0, 0, 0, 0, 0, 0, 0, 0, 0, 0, 0, 0, 0, 0, 0, 0, 0, 0, 0, 0, 0, 0, 0, 0, 0, 0, 0, 0, 0, 0, 0, 0, 0, 0, 0, 0, 0, 0, 0, 0, 0, 0, 0, 0, 0, 0, 0, 0, 0, 0, 0])] rfl) gw_X11_fails
set_option maxRecDepth 100000 in
theorem gX11_takeNumber_X11_fails : GoodIn wsX11_takeNumber (wsV RX11 172 RX11 yX11_fails wsX11_fails) := goodIn_app (goodIn_sub (sub_c (nq_m (n := 16) rfl) (sub_c (nq_m (n := 17) rfl) (sub_c (nq_m (n := 18) rfl) (sub_c (nq_m (n := 11) rfl) sub_n)))) (by decide +kernel)) ggX11_takeNumber_X11_fails
noncomputable def dX11_takeNumber_0_l : List (Nat × Instr × Nat) := [(0, .aload_n 0, 1), (1, .invokevirtual 138, 3), (4, .istore_n 3, 1), (5, .iload_n 3, 1), (6, .i2l, 1), (7, .ldc2_w 176, 3), (10, .ldc2_w 178, 3), (13, .invokestatic 126, 3), (16, .ifCond .ne 13, 3), (19, .aload_n 0, 1), (20, .iconst 1, 1), (21, .aload_n 0, 1), (22, .getfield 135, 3), (25, .invokevirtual 172, 3), (28, .ireturn, 1), (29, .aload_n 0, 1), (30, .aload_n 0, 1), (31, .getfield 135, 3), (34, .putfield 180, 3), (37, .aload_n 0, 1), (38, .iconst 0, 1), (39, .putfield 183, 3), (42, .aload_n 0, 1), (43, .getfield 135, 3), (46, .aload_n 0, 1), (47, .getfield 130, 3), (50, .if_icmp .ge 79, 3), (53, .aload_n 0, 1), (54, .getfield 22, 3), (57, .aload_n 0, 1), (58, .getfield 135, 3), (61, .iaload, 1), (62, .i2l, 1), (63, .ldc2_w 176, 3), (66, .ldc2_w 178, 3), (69, .invokestatic 126, 3), (72, .ifCond .eq 57, 3), (75, .aload_n 0, 1), (76, .aload_n 0, 1), (77, .getfield 183, 3)]
set_option maxRecDepth 100000 in
theorem dX11_takeNumber_0_g : dX11_takeNumber_0_l.all (fun x => decide (decode cX11_takeNumber x.1 = .ok x.2)) = true := by decide +kernel
noncomputable def dX11_takeNumber_80_l : List (Nat × Instr × Nat) := [(80, .sipush 10000, 3), (83, .if_icmp .le 10, 3), (86, .aload_n 0, 1), (87, .getfield 183, 3), (90, .goto 23, 3), (93, .bipush 10, 2), (95, .aload_n 0, 1), (96, .getfield 183, 3), (99, .imul, 1), (100, .aload_n 0, 1), (101, .getfield 22, 3), (104, .aload_n 0, 1), (105, .getfield 135, 3), (108, .iaload, 1), (109, .iadd, 1), (110, .bipush 48, 2), (112, .isub, 1), (113, .putfield 183, 3), (116, .aload_n 0, 1), (117, .dup, 1), (118, .getfield 135, 3), (121, .iconst 1, 1), (122, .iadd, 1), (123, .putfield 135, 3), (126, .goto (-84), 3), (129, .aload_n 0, 1), (130, .getfield 135, 3), (133, .aload_n 0, 1), (134, .getfield 180, 3), (137, .isub, 1), (138, .iconst 3, 1), (139, .if_icmp .gt 18, 3), (142, .aload_n 0, 1), (143, .getfield 183, 3), (146, .i2l, 1), (147, .iload_n 1, 1), (148, .i2l, 1), (149, .iload_n 2, 1), (150, .i2l, 1), (151, .invokestatic 126, 3)]
set_option maxRecDepth 100000 in
theorem dX11_takeNumber_80_g : dX11_takeNumber_80_l.all (fun x => decide (decode cX11_takeNumber x.1 = .ok x.2)) = true := by decide +kernel
noncomputable def dX11_takeNumber_154_l : List (Nat × Instr × Nat) := [(154, .ifCond .ne 15, 3), (157, .aload_n 0, 1), (158, .iconst 2, 1), (159, .aload_n 0, 1), (160, .getfield 180, 3), (163, .invokevirtual 172, 3), (166, .goto 4, 3), (169, .iconst 0, 1), (170, .ireturn, 1)]
set_option maxRecDepth 100000 in
theorem dX11_takeNumber_154_g : dX11_takeNumber_154_l.all (fun x => decide (decode cX11_takeNumber x.1 = .ok x.2)) = true := by decide +kernel
noncomputable def dX11_bare_0_l : List (Nat × Instr × Nat) := [(0, .aload_n 0, 1), (1, .iconst 0, 1), (2, .putfield 186, 3), (5, .aload_n 0, 1), (6, .iconst 0, 1), (7, .putfield 189, 3), (10, .aload_n 0, 1), (11, .iconst 0, 1), (12, .putfield 192, 3), (15, .iconst 0, 1), (16, .istore_n 1, 1), (17, .iload_n 1, 1), (18, .iconst 4, 1), (19, .if_icmp .ge 43, 3), (22, .aload_n 0, 1), (23, .getfield 35, 3), (26, .iconst 3, 1), (27, .iload_n 1, 1), (28, .imul, 1), (29, .bipush 10, 2), (31, .iastore, 1), (32, .aload_n 0, 1), (33, .getfield 35, 3), (36, .iconst 3, 1), (37, .iload_n 1, 1), (38, .imul, 1), (39, .iconst 1, 1), (40, .iadd, 1), (41, .bipush 20, 2), (43, .iastore, 1), (44, .aload_n 0, 1), (45, .getfield 35, 3), (48, .iconst 3, 1), (49, .iload_n 1, 1), (50, .imul, 1), (51, .iconst 2, 1), (52, .iadd, 1), (53, .bipush 70, 2), (55, .iastore, 1), (56, .iinc 1 1, 3)]
set_option maxRecDepth 100000 in
theorem dX11_bare_0_g : dX11_bare_0_l.all (fun x => decide (decode cX11_bare x.1 = .ok x.2)) = true := by decide +kernel
noncomputable def dX11_bare_59_l : List (Nat × Instr × Nat) := [(59, .goto (-42), 3), (62, .aload_n 0, 1), (63, .getfield 38, 3), (66, .iconst 0, 1), (67, .iconst 1, 1), (68, .iastore, 1), (69, .aload_n 0, 1), (70, .getfield 38, 3), (73, .iconst 1, 1), (74, .iconst 2, 1), (75, .iastore, 1), (76, .aload_n 0, 1), (77, .getfield 38, 3), (80, .iconst 2, 1), (81, .iconst 5, 1), (82, .iastore, 1), (83, .aload_n 0, 1), (84, .getfield 38, 3), (87, .iconst 3, 1), (88, .iconst 2, 1), (89, .iastore, 1), (90, .aload_n 0, 1), (91, .getfield 38, 3), (94, .iconst 4, 1), (95, .iconst 1, 1), (96, .iastore, 1), (97, .return_, 1)]
set_option maxRecDepth 100000 in
theorem dX11_bare_59_g : dX11_bare_59_l.all (fun x => decide (decode cX11_bare x.1 = .ok x.2)) = true := by decide +kernel
set_option maxRecDepth 100000 in
theorem gw_X11_takeNumber : wsX11_takeNumber.all goodWord = true := by decide +kernel
set_option maxRecDepth 100000 in
theorem ggX11_takeRow_X11_takeNumber : GoodIn wsX11_takeRow wsX11_takeNumber := goodIn_sub (sub_g [(10, [0, 0, 0]), (3, []), (1, [12, 0, 0, 0, 0]), (9, [9, 0, 0, 0, 0, 0, 0, 0, 0, 22, 0, 0, 0, 0, 0, 0, 0, 0, 0, 0, 0, 0, 0, 0, 0, 0, 0, 0, 0, 0, 0, 0, 0, 0, 0, 0, 0, 0, 0, 0, 0, 0, 0, 0, 0, 0, 0, 0, 0, 0, 0, 0, 0, 0, 0, 0, 0, 0, 0, 0, 0, 0, 0, 0, 0, 0, 0])] rfl) gw_X11_takeNumber
set_option maxRecDepth 100000 in
theorem gX11_takeRow_X11_takeNumber : GoodIn wsX11_takeRow (wsV RX11 195 RX11 yX11_takeNumber wsX11_takeNumber) := goodIn_app (goodIn_sub (sub_c (nq_m (n := 6) rfl) (sub_c (nq_m (n := 7) rfl) (sub_c (nq_m (n := 8) rfl) (sub_c (nq_m (n := 9) rfl) sub_n)))) (by decide +kernel)) ggX11_takeRow_X11_takeNumber
set_option maxRecDepth 100000 in
theorem ggX11_takeRow_X11_fails : GoodIn wsX11_takeRow wsX11_fails := goodIn_sub (sub_g [(26, [0, 22, 0, 0, 0, 0, 0, 0, 0, 0, 0, 0, 0, 0, 0, 0, 0, 0, 0, 0, 0, 0, 0, 0, 0, 0, 0, 0, 0, 0, 0, 0, 0, 0, 0, 0, 0, 0, 0, 0, 0, 0, 0, 0, 0, 0, 0, 0, 0, 0, 0, 0, 0, 0, 0, 0, 0, 0, 0])] rfl) gw_X11_fails
set_option maxRecDepth 100000 in
theorem gX11_takeRow_X11_fails : GoodIn wsX11_takeRow (wsV RX11 172 RX11 yX11_fails wsX11_fails) := goodIn_app (goodIn_sub (sub_c (nq_m (n := 23) rfl) (sub_c (nq_m (n := 24) rfl) (sub_c (nq_m (n := 25) rfl) (sub_c (nq_m (n := 9) rfl) sub_n)))) (by decide +kernel)) ggX11_takeRow_X11_fails
set_option maxRecDepth 100000 in
theorem ggX11_takeRow_X11_code : GoodIn wsX11_takeRow wsX11_code := goodIn_sub (sub_c (nq_m (n := 30) rfl) (sub_c (nq_m (n := 31) rfl) (sub_c (nq_m (n := 32) rfl) sub_n))) gw_X11_code
set_option maxRecDepth 100000 in
theorem gX11_takeRow_X11_code : GoodIn wsX11_takeRow (va_wsS RX11 161 yX11_code wsX11_code) := goodIn_app (goodIn_sub (sub_c (nq_m (n := 28) rfl) (sub_c (nq_m (n := 29) rfl) (sub_c (nq_m (n := 9) rfl) sub_n))) (by decide +kernel)) ggX11_takeRow_X11_code
set_option maxRecDepth 100000 in
theorem ggX11_takeRow_X11_longer : GoodIn wsX11_takeRow wsX11_longer := goodIn_sub (sub_c (nq_m (n := 35) rfl) (sub_c (nq_m (n := 31) rfl) (sub_c (nq_m (n := 32) rfl) sub_n))) gw_X11_longer
set_option maxRecDepth 100000 in
theorem gX11_takeRow_X11_longer : GoodIn wsX11_takeRow (va_wsS RX11 165 yX11_longer wsX11_longer) := goodIn_app (goodIn_sub (sub_c (nq_m (n := 33) rfl) (sub_c (nq_m (n := 34) rfl) (sub_c (nq_m (n := 9) rfl) sub_n))) (by decide +kernel)) ggX11_takeRow_X11_longer
set_option maxRecDepth 100000 in
theorem gw_X11_needs : wsX11_needs.all goodWord = true := by decide +kernel
set_option maxRecDepth 100000 in
theorem ggX11_takeRow_X11_needs : GoodIn wsX11_takeRow wsX11_needs := goodIn_sub (sub_g [(39, [0]), (13, [27, 0, 0, 0]), (9, [35]), (14, [0, 30, 0, 0, 0]), (31, [0]), (16, [0, 0, 0, 0, 0, 0, 0, 0, 0, 0, 0, 22, 0, 0, 0, 0, 0, 0, 0, 0, 0, 0, 0, 0, 0, 0, 0, 0, 0, 0, 0, 0, 0, 0, 0, 0, 0, 0, 0, 0, 0, 0, 0, 0, 0, 0, 0, 0, 0, 0, 0, 0, 0, 0, 0, 0, 0, 0, 0, 0, 0, 0, 0, 0, 0, 0, 0, 0, 0])] rfl) gw_X11_needs
set_option maxRecDepth 100000 in
theorem gX11_takeRow_X11_needs : GoodIn wsX11_takeRow (wsV RX11 198 RX11 yX11_needs wsX11_needs) := goodIn_app (goodIn_sub (sub_c (nq_m (n := 36) rfl) (sub_c (nq_m (n := 37) rfl) (sub_c (nq_m (n := 38) rfl) (sub_c (nq_m (n := 9) rfl) sub_n)))) (by decide +kernel)) ggX11_takeRow_X11_needs
noncomputable def dX11_takeRow_0_l : List (Nat × Instr × Nat) := [(0, .aload_n 0, 1), (1, .iconst 1, 1), (2, .bipush 24, 2), (4, .invokevirtual 195, 3), (7, .istore_n 1, 1), (8, .aload_n 0, 1), (9, .getfield 183, 3), (12, .istore_n 2, 1), (13, .iload_n 1, 1), (14, .ifCond .ne 24, 3), (17, .aload_n 0, 1), (18, .getfield 186, 3), (21, .iload_n 2, 1), (22, .iadd, 1), (23, .bipush 24, 2), (25, .if_icmp .le 13, 3), (28, .aload_n 0, 1), (29, .iconst 4, 1), (30, .aload_n 0, 1), (31, .getfield 180, 3), (34, .invokevirtual 172, 3), (37, .istore_n 1, 1), (38, .iload_n 1, 1), (39, .ifCond .le 7, 3), (42, .iload_n 1, 1), (43, .goto 21, 3), (46, .aload_n 0, 1), (47, .bipush 107, 2), (49, .bipush 105, 2), (51, .bipush 110, 2), (53, .invokestatic 161, 3), (56, .bipush 100, 2), (58, .invokestatic 165, 3), (61, .invokevirtual 198, 3), (64, .istore_n 1, 1), (65, .iload_n 1, 1), (66, .ifCond .le 7, 3), (69, .iload_n 1, 1), (70, .goto 9, 3), (73, .aload_n 0, 1)]
set_option maxRecDepth 100000 in
theorem dX11_takeRow_0_g : dX11_takeRow_0_l.all (fun x => decide (decode cX11_takeRow x.1 = .ok x.2)) = true := by decide +kernel
noncomputable def dX11_takeRow_74_l : List (Nat × Instr × Nat) := [(74, .iconst 0, 1), (75, .iconst 2, 1), (76, .invokevirtual 195, 3), (79, .istore_n 1, 1), (80, .aload_n 0, 1), (81, .getfield 183, 3), (84, .istore_n 3, 1), (85, .iload_n 1, 1), (86, .ifCond .le 7, 3), (89, .iload_n 1, 1), (90, .goto 21, 3), (93, .aload_n 0, 1), (94, .bipush 119, 2), (96, .bipush 97, 2), (98, .bipush 108, 2), (100, .invokestatic 161, 3), (103, .bipush 107, 2), (105, .invokestatic 165, 3), (108, .invokevirtual 198, 3), (111, .istore_n 1, 1), (112, .iload_n 1, 1), (113, .ifCond .le 7, 3), (116, .iload_n 1, 1), (117, .goto 10, 3), (120, .aload_n 0, 1), (121, .iconst 0, 1), (122, .bipush 99, 2), (124, .invokevirtual 195, 3), (127, .istore_n 1, 1), (128, .iconst 0, 1), (129, .istore 4, 2), (131, .iload 4, 2), (133, .iload_n 2, 1), (134, .if_icmp .ge 49, 3), (137, .iload_n 1, 1), (138, .ifCond .ne 45, 3), (141, .aload_n 0, 1), (142, .getfield 29, 3), (145, .aload_n 0, 1), (146, .getfield 186, 3)]
set_option maxRecDepth 100000 in
theorem dX11_takeRow_74_g : dX11_takeRow_74_l.all (fun x => decide (decode cX11_takeRow x.1 = .ok x.2)) = true := by decide +kernel
noncomputable def dX11_takeRow_149_l : List (Nat × Instr × Nat) := [(149, .iload_n 3, 1), (150, .iastore, 1), (151, .aload_n 0, 1), (152, .getfield 32, 3), (155, .aload_n 0, 1), (156, .getfield 186, 3), (159, .aload_n 0, 1), (160, .getfield 183, 3), (163, .iload 4, 2), (165, .iadd, 1), (166, .iastore, 1), (167, .aload_n 0, 1), (168, .dup, 1), (169, .getfield 186, 3), (172, .iconst 1, 1), (173, .iadd, 1), (174, .putfield 186, 3), (177, .iinc 4 1, 3), (180, .goto (-49), 3), (183, .iload_n 1, 1), (184, .ireturn, 1)]
set_option maxRecDepth 100000 in
theorem dX11_takeRow_149_g : dX11_takeRow_149_l.all (fun x => decide (decode cX11_takeRow x.1 = .ok x.2)) = true := by decide +kernel
set_option maxRecDepth 100000 in
theorem ggX11_takeOdds_X11_takeNumber : GoodIn wsX11_takeOdds wsX11_takeNumber := goodIn_sub (sub_g [(9, [0, 0, 0]), (3, []), (1, [11, 0, 0, 0, 0]), (8, [9, 0, 0, 0, 0, 0, 0, 0, 0, 0, 0, 0, 0, 0, 0, 0, 0, 0, 0, 0, 0, 0, 0, 0, 0, 0, 0, 0, 0, 0, 0, 0, 0, 0, 0, 0, 0, 0, 0, 0, 0, 0, 0, 0, 0, 0, 0, 0, 0, 0, 0, 0, 0, 0, 0, 0, 0, 0, 0, 0, 0, 0, 0, 0, 0, 0, 0])] rfl) gw_X11_takeNumber
set_option maxRecDepth 100000 in
theorem gX11_takeOdds_X11_takeNumber : GoodIn wsX11_takeOdds (wsV RX11 195 RX11 yX11_takeNumber wsX11_takeNumber) := goodIn_app (goodIn_sub (sub_c (nq_m (n := 5) rfl) (sub_c (nq_m (n := 6) rfl) (sub_c (nq_m (n := 7) rfl) (sub_c (nq_m (n := 8) rfl) sub_n)))) (by decide +kernel)) ggX11_takeOdds_X11_takeNumber
set_option maxRecDepth 100000 in
theorem ggX11_takeOdds_X11_fails : GoodIn wsX11_takeOdds wsX11_fails := goodIn_sub (sub_g [(25, [0, 0, 0, 0, 0, 0, 0, 0, 0, 0, 0, 0, 0, 0, 0, 0, 0, 0, 0, 0, 0, 0, 0, 0, 0, 0, 0, 0, 0, 0, 0, 0, 0, 0, 0, 0, 0, 0, 0, 0, 0, 0, 0, 0, 0, 0, 0, 0, 0, 0, 0, 0, 0, 0, 0, 0, 0, 0, 0])] rfl) gw_X11_fails
set_option maxRecDepth 100000 in
theorem gX11_takeOdds_X11_fails : GoodIn wsX11_takeOdds (wsV RX11 172 RX11 yX11_fails wsX11_fails) := goodIn_app (goodIn_sub (sub_c (nq_m (n := 22) rfl) (sub_c (nq_m (n := 23) rfl) (sub_c (nq_m (n := 24) rfl) (sub_c (nq_m (n := 8) rfl) sub_n)))) (by decide +kernel)) ggX11_takeOdds_X11_fails
noncomputable def dX11_takeOdds_0_l : List (Nat × Instr × Nat) := [(0, .aload_n 0, 1), (1, .iconst 0, 1), (2, .iconst 3, 1), (3, .invokevirtual 195, 3), (6, .istore_n 1, 1), (7, .aload_n 0, 1), (8, .getfield 183, 3), (11, .istore_n 2, 1), (12, .iload_n 1, 1), (13, .ifCond .ne 25, 3), (16, .aload_n 0, 1), (17, .getfield 192, 3), (20, .iload_n 2, 1), (21, .ishr, 1), (22, .iconst 1, 1), (23, .iand, 1), (24, .iconst 1, 1), (25, .if_icmp .ne 13, 3), (28, .aload_n 0, 1), (29, .iconst 3, 1), (30, .aload_n 0, 1), (31, .getfield 180, 3), (34, .invokevirtual 172, 3), (37, .istore_n 1, 1), (38, .iconst 0, 1), (39, .istore_n 3, 1), (40, .iconst 0, 1), (41, .istore 4, 2), (43, .iload 4, 2), (45, .iconst 3, 1), (46, .if_icmp .ge 43, 3), (49, .iload_n 1, 1), (50, .ifCond .ne 39, 3), (53, .aload_n 0, 1), (54, .iconst 0, 1), (55, .bipush 100, 2), (57, .invokevirtual 195, 3), (60, .istore_n 1, 1), (61, .aload_n 0, 1), (62, .getfield 35, 3)]
set_option maxRecDepth 100000 in
theorem dX11_takeOdds_0_g : dX11_takeOdds_0_l.all (fun x => decide (decode cX11_takeOdds x.1 = .ok x.2)) = true := by decide +kernel
noncomputable def dX11_takeOdds_65_l : List (Nat × Instr × Nat) := [(65, .iconst 3, 1), (66, .iload_n 2, 1), (67, .imul, 1), (68, .iload 4, 2), (70, .iadd, 1), (71, .aload_n 0, 1), (72, .getfield 183, 3), (75, .iastore, 1), (76, .iload_n 3, 1), (77, .aload_n 0, 1), (78, .getfield 183, 3), (81, .iadd, 1), (82, .istore_n 3, 1), (83, .iinc 4 1, 3), (86, .goto (-43), 3), (89, .iload_n 1, 1), (90, .ifCond .le 5, 3), (93, .iload_n 1, 1), (94, .ireturn, 1), (95, .aload_n 0, 1), (96, .dup, 1), (97, .getfield 192, 3), (100, .iconst 1, 1), (101, .iload_n 2, 1), (102, .ishl, 1), (103, .ior, 1), (104, .putfield 192, 3), (107, .iload_n 3, 1), (108, .bipush 100, 2), (110, .if_icmp .eq 15, 3), (113, .aload_n 0, 1), (114, .iconst 5, 1), (115, .aload_n 0, 1), (116, .getfield 180, 3), (119, .invokevirtual 172, 3), (122, .goto 4, 3), (125, .iconst 0, 1), (126, .ireturn, 1)]
set_option maxRecDepth 100000 in
theorem dX11_takeOdds_65_g : dX11_takeOdds_65_l.all (fun x => decide (decode cX11_takeOdds x.1 = .ok x.2)) = true := by decide +kernel
set_option maxRecDepth 100000 in
theorem ggX11_takeSingles_X11_takeNumber : GoodIn wsX11_takeSingles wsX11_takeNumber := goodIn_sub (sub_g [(7, [0, 0, 0, 0]), (2, [9, 0, 0, 0, 0]), (6, [10, 0, 0, 0, 0, 0, 0, 0, 0, 0, 0, 0, 0, 0, 0, 0, 0, 0, 0, 0, 0, 0, 0, 0, 0, 0, 0, 0, 0, 0, 0, 0, 0, 0, 0, 0, 0, 0, 0, 0, 0, 0, 0, 0, 0, 0, 0, 0, 0, 0, 0, 0, 0, 0, 0, 0, 0, 0, 0, 0, 0, 0, 0, 0, 0, 0, 0])] rfl) gw_X11_takeNumber
set_option maxRecDepth 100000 in
theorem gX11_takeSingles_X11_takeNumber : GoodIn wsX11_takeSingles (wsV RX11 195 RX11 yX11_takeNumber wsX11_takeNumber) := goodIn_app (goodIn_sub (sub_c (nq_m (n := 3) rfl) (sub_c (nq_m (n := 4) rfl) (sub_c (nq_m (n := 5) rfl) (sub_c (nq_m (n := 6) rfl) sub_n)))) (by decide +kernel)) ggX11_takeSingles_X11_takeNumber
noncomputable def dX11_takeSingles_0_l : List (Nat × Instr × Nat) := [(0, .iconst 0, 1), (1, .istore_n 2, 1), (2, .iload_n 1, 1), (3, .iconst 2, 1), (4, .if_icmp .ne 7, 3), (7, .iconst 0, 1), (8, .goto 4, 3), (11, .iload_n 1, 1), (12, .istore_n 3, 1), (13, .iload_n 1, 1), (14, .iconst 2, 1), (15, .if_icmp .ne 7, 3), (18, .iconst 2, 1), (19, .goto 4, 3), (22, .iload_n 1, 1), (23, .istore 4, 2), (25, .iload_n 3, 1), (26, .istore 5, 2), (28, .iload 5, 2), (30, .iload 4, 2), (32, .if_icmp .gt 42, 3), (35, .iload_n 2, 1), (36, .ifCond .ne 38, 3), (39, .aload_n 0, 1), (40, .iconst 0, 1), (41, .iload_n 1, 1), (42, .iconst 2, 1), (43, .if_icmp .ne 8, 3), (46, .bipush 9, 2), (48, .goto 5, 3), (51, .bipush 20, 2), (53, .invokevirtual 195, 3), (56, .istore_n 2, 1), (57, .aload_n 0, 1), (58, .getfield 38, 3), (61, .iload 5, 2), (63, .aload_n 0, 1), (64, .getfield 183, 3), (67, .iastore, 1), (68, .iinc 5 1, 3)]
set_option maxRecDepth 100000 in
theorem dX11_takeSingles_0_g : dX11_takeSingles_0_l.all (fun x => decide (decode cX11_takeSingles x.1 = .ok x.2)) = true := by decide +kernel
noncomputable def dX11_takeSingles_71_l : List (Nat × Instr × Nat) := [(71, .goto (-43), 3), (74, .iload_n 2, 1), (75, .ireturn, 1)]
set_option maxRecDepth 100000 in
theorem dX11_takeSingles_71_g : dX11_takeSingles_71_l.all (fun x => decide (decode cX11_takeSingles x.1 = .ok x.2)) = true := by decide +kernel
set_option maxRecDepth 100000 in
theorem ggX11_takeClause_X11_readWord : GoodIn wsX11_takeClause wsX11_readWord := goodIn_sub (sub_g [(8, [0]), (2, [0, 6, 0, 0, 0, 0, 0, 0, 0, 0, 0, 0]), (7, [13, 0, 0, 0, 45, 0, 0, 0, 0, 0, 0, 0, 0, 0, 0, 0, 0, 0, 0, 0, 0, 0, 0, 0, 0, 0, 0, 0, 0, 0, 0, 0, 0, 0, 0, 0, 0, 0, 0, 0, 0, 0, 0, 0, 0, 0, 0, 0, 0, 0, 0, 0, 0, 0, 0, 0, 0, 0, 0, 0, 0, 0])] rfl) gw_X11_readWord
set_option maxRecDepth 100000 in
theorem gX11_takeClause_X11_readWord : GoodIn wsX11_takeClause (wsV RX11 169 RX11 yX11_readWord wsX11_readWord) := goodIn_app (goodIn_sub (sub_c (nq_m (n := 4) rfl) (sub_c (nq_m (n := 5) rfl) (sub_c (nq_m (n := 6) rfl) (sub_c (nq_m (n := 7) rfl) sub_n)))) (by decide +kernel)) ggX11_takeClause_X11_readWord
set_option maxRecDepth 100000 in
theorem gw_X11_clauseOf : wsX11_clauseOf.all goodWord = true := by decide +kernel
set_option maxRecDepth 100000 in
theorem ggX11_takeClause_X11_clauseOf : GoodIn wsX11_takeClause wsX11_clauseOf := goodIn_sub (sub_g [(28, []), (9, [19, 0]), (7, [23]), (16, [0, 14, 0, 0, 35, 0, 0, 0, 0, 0, 0, 0, 0, 0, 0, 0, 0, 0, 0, 0, 0, 0, 0, 0, 0, 0, 0, 0, 0, 0, 0, 0, 0, 0, 0, 0, 0, 0, 0, 0, 0, 0, 0, 0, 0, 0, 0, 0, 0, 0, 0, 0, 0, 0, 0, 0, 0, 0, 0, 0, 0, 0])] rfl) gw_X11_clauseOf
set_option maxRecDepth 100000 in
theorem gX11_takeClause_X11_clauseOf : GoodIn wsX11_takeClause (wsV RX11 202 RX11 yX11_clauseOf wsX11_clauseOf) := goodIn_app (goodIn_sub (sub_c (nq_m (n := 25) rfl) (sub_c (nq_m (n := 26) rfl) (sub_c (nq_m (n := 27) rfl) (sub_c (nq_m (n := 7) rfl) sub_n)))) (by decide +kernel)) ggX11_takeClause_X11_clauseOf
set_option maxRecDepth 100000 in
theorem ggX11_takeClause_X11_fails : GoodIn wsX11_takeClause wsX11_fails := goodIn_sub (sub_g [(38, [0, 30, 0, 0, 0, 0, 0, 0, 0, 0, 0, 0, 0, 0, 0, 0, 0, 0, 0, 0, 0, 0, 0, 0, 0, 0, 0, 0, 0, 0, 0, 0, 0, 0, 0, 0, 0, 0, 0, 0, 0, 0, 0, 0, 0, 0, 0, 0, 0, 0, 0, 0, 0, 0, 0, 0, 0, 0, 0])] rfl) gw_X11_fails
set_option maxRecDepth 100000 in
theorem gX11_takeClause_X11_fails : GoodIn wsX11_takeClause (wsV RX11 172 RX11 yX11_fails wsX11_fails) := goodIn_app (goodIn_sub (sub_c (nq_m (n := 35) rfl) (sub_c (nq_m (n := 36) rfl) (sub_c (nq_m (n := 37) rfl) (sub_c (nq_m (n := 7) rfl) sub_n)))) (by decide +kernel)) ggX11_takeClause_X11_fails
set_option maxRecDepth 100000 in
theorem gw_X11_takeRow : wsX11_takeRow.all goodWord = true := by decide +kernel
set_option maxRecDepth 100000 in
theorem ggX11_takeClause_X11_takeRow : GoodIn wsX11_takeClause wsX11_takeRow := goodIn_sub (sub_g [(43, [0, 0, 0, 0, 0, 0, 0, 0]), (7, [44, 0, 0]), (2, [7, 0, 6, 0, 0, 0, 0, 0, 0, 10, 0, 0, 0, 0]), (29, [0, 0]), (16, [0, 14, 0, 0, 20, 0, 0, 0]), (9, []), (3, [0, 0, 0, 1, 3, 0, 0, 0, 54, 0, 0, 0, 0, 0, 0, 0, 0, 0, 0, 0, 0, 0, 0, 0, 0, 0, 0, 0, 0, 0, 0, 0, 0, 0, 0, 0, 0, 0, 0, 0, 0, 0, 0, 0, 0, 0, 0, 0, 0, 0, 0, 0, 0, 0, 0, 0, 0, 0, 0, 0, 0, 0, 0, 0, 0, 0])] rfl) gw_X11_takeRow
set_option maxRecDepth 100000 in
theorem gX11_takeClause_X11_takeRow : GoodIn wsX11_takeClause (wsV RX11 205 RX11 yX11_takeRow wsX11_takeRow) := goodIn_app (goodIn_sub (sub_c (nq_m (n := 40) rfl) (sub_c (nq_m (n := 41) rfl) (sub_c (nq_m (n := 42) rfl) (sub_c (nq_m (n := 7) rfl) sub_n)))) (by decide +kernel)) ggX11_takeClause_X11_takeRow
set_option maxRecDepth 100000 in
theorem gw_X11_takeOdds : wsX11_takeOdds.all goodWord = true := by decide +kernel
set_option maxRecDepth 100000 in
theorem ggX11_takeClause_X11_takeOdds : GoodIn wsX11_takeClause wsX11_takeOdds := goodIn_sub (sub_g [(62, []), (44, [18]), (46, [17]), (49, [0, 0]), (7, [44, 0, 0]), (2, [7, 0, 6, 0, 0, 0, 0, 0, 0, 10, 0, 0, 0, 0, 30, 0, 0, 0, 0, 0, 0, 0, 0, 0, 0, 0, 0, 0, 0, 0, 0, 0, 0, 0, 0, 0, 0, 0, 0, 0, 0, 0, 0, 0, 0, 0, 0, 0, 0, 0, 0, 0, 0, 0, 0, 0, 0, 0, 0, 0, 0, 0, 0, 0, 0, 0, 0, 0, 0, 0, 0, 0])] rfl) gw_X11_takeOdds
set_option maxRecDepth 100000 in
theorem gX11_takeClause_X11_takeOdds : GoodIn wsX11_takeClause (wsV RX11 208 RX11 yX11_takeOdds wsX11_takeOdds) := goodIn_app (goodIn_sub (sub_c (nq_m (n := 59) rfl) (sub_c (nq_m (n := 60) rfl) (sub_c (nq_m (n := 61) rfl) (sub_c (nq_m (n := 7) rfl) sub_n)))) (by decide +kernel)) ggX11_takeClause_X11_takeOdds
set_option maxRecDepth 100000 in
theorem gw_X11_takeSingles : wsX11_takeSingles.all goodWord = true := by decide +kernel
set_option maxRecDepth 100000 in
theorem ggX11_takeClause_X11_takeSingles : GoodIn wsX11_takeClause wsX11_takeSingles := goodIn_sub (sub_g [(68, [0]), (44, [4, 0, 0]), (7, [44, 0, 0]), (2, [43]), (10, [0, 6, 0, 0, 0, 0, 0, 0, 10, 0, 0, 0, 0, 30, 0, 0, 0, 0, 0, 0, 0, 0, 0, 0, 0, 0, 0, 0, 0, 0, 0, 0, 0, 0, 0, 0, 0, 0, 0, 0, 0, 0, 0, 0, 0, 0, 0, 0, 0, 0, 0, 0, 0, 0, 0, 0, 0, 0, 0, 0, 0, 0, 0, 0, 0, 0, 0, 0, 0, 0, 0])] rfl) gw_X11_takeSingles
set_option maxRecDepth 100000 in
theorem gX11_takeClause_X11_takeSingles : GoodIn wsX11_takeClause (wsV RX11 211 RX11 yX11_takeSingles wsX11_takeSingles) := goodIn_app (goodIn_sub (sub_c (nq_m (n := 65) rfl) (sub_c (nq_m (n := 66) rfl) (sub_c (nq_m (n := 67) rfl) (sub_c (nq_m (n := 7) rfl) sub_n)))) (by decide +kernel)) ggX11_takeClause_X11_takeSingles
set_option maxRecDepth 100000 in
theorem ggX11_takeClause_X11_here : GoodIn wsX11_takeClause wsX11_here := goodIn_sub (sub_g [(21, []), (2, [7, 0, 58, 0, 0, 0, 0, 0, 0, 0, 0, 0, 0, 0, 0, 0, 0, 0, 0, 0, 0, 0, 0, 0, 0, 0, 0, 0, 0, 0, 0, 0, 0, 0, 0, 0, 0, 0, 0, 0, 0, 0, 0, 0, 0, 0, 0, 0, 0, 0, 0, 0, 0, 0, 0, 0, 0, 0, 0, 0])] rfl) gw_X11_here
set_option maxRecDepth 100000 in
theorem gX11_takeClause_X11_here : GoodIn wsX11_takeClause (wsV RX11 138 RX11 yX11_here wsX11_here) := goodIn_app (goodIn_sub (sub_c (nq_m (n := 18) rfl) (sub_c (nq_m (n := 19) rfl) (sub_c (nq_m (n := 20) rfl) (sub_c (nq_m (n := 7) rfl) sub_n)))) (by decide +kernel)) ggX11_takeClause_X11_here
noncomputable def dX11_takeClause_0_l : List (Nat × Instr × Nat) := [(0, .aload_n 0, 1), (1, .invokevirtual 169, 3), (4, .aload_n 0, 1), (5, .invokevirtual 202, 3), (8, .istore_n 1, 1), (9, .iload_n 1, 1), (10, .iconst 1, 1), (11, .if_icmp .le 19, 3), (14, .aload_n 0, 1), (15, .getfield 189, 3), (18, .iload_n 1, 1), (19, .ishr, 1), (20, .iconst 1, 1), (21, .iand, 1), (22, .iconst 1, 1), (23, .if_icmp .ne 7, 3), (26, .iconst 1, 1), (27, .goto 4, 3), (30, .iconst 0, 1), (31, .istore_n 2, 1), (32, .iload_n 1, 1), (33, .ifCond .lt 7, 3), (36, .iload_n 2, 1), (37, .ifCond .eq 21, 3), (40, .aload_n 0, 1), (41, .iload_n 1, 1), (42, .ifCond .ge 7, 3), (45, .iconst 1, 1), (46, .goto 4, 3), (49, .iconst 3, 1), (50, .aload_n 0, 1), (51, .getfield 135, 3), (54, .invokevirtual 172, 3), (57, .ireturn, 1), (58, .aload_n 0, 1), (59, .dup, 1), (60, .getfield 189, 3), (63, .iconst 1, 1), (64, .iload_n 1, 1), (65, .ishl, 1)]
set_option maxRecDepth 100000 in
theorem dX11_takeClause_0_g : dX11_takeClause_0_l.all (fun x => decide (decode cX11_takeClause x.1 = .ok x.2)) = true := by decide +kernel
noncomputable def dX11_takeClause_66_l : List (Nat × Instr × Nat) := [(66, .ior, 1), (67, .putfield 189, 3), (70, .aload_n 0, 1), (71, .aload_n 0, 1), (72, .getfield 146, 3), (75, .putfield 135, 3), (78, .iload_n 1, 1), (79, .ifCond .ne 10, 3), (82, .aload_n 0, 1), (83, .invokevirtual 205, 3), (86, .goto 20, 3), (89, .iload_n 1, 1), (90, .iconst 1, 1), (91, .if_icmp .ne 10, 3), (94, .aload_n 0, 1), (95, .invokevirtual 208, 3), (98, .goto 8, 3), (101, .aload_n 0, 1), (102, .iload_n 1, 1), (103, .invokevirtual 211, 3), (106, .istore_n 3, 1), (107, .iload_n 3, 1), (108, .ifCond .le 5, 3), (111, .iload_n 3, 1), (112, .ireturn, 1), (113, .aload_n 0, 1), (114, .invokevirtual 138, 3), (117, .bipush 59, 2), (119, .if_icmp .eq 13, 3), (122, .aload_n 0, 1), (123, .iconst 1, 1), (124, .aload_n 0, 1), (125, .getfield 135, 3), (128, .invokevirtual 172, 3), (131, .ireturn, 1), (132, .aload_n 0, 1), (133, .dup, 1), (134, .getfield 135, 3), (137, .iconst 1, 1), (138, .iadd, 1)]
set_option maxRecDepth 100000 in
theorem dX11_takeClause_66_g : dX11_takeClause_66_l.all (fun x => decide (decode cX11_takeClause x.1 = .ok x.2)) = true := by decide +kernel
noncomputable def dX11_takeClause_139_l : List (Nat × Instr × Nat) := [(139, .putfield 135, 3), (142, .iconst 0, 1), (143, .ireturn, 1)]
set_option maxRecDepth 100000 in
theorem dX11_takeClause_139_g : dX11_takeClause_139_l.all (fun x => decide (decode cX11_takeClause x.1 = .ok x.2)) = true := by decide +kernel
set_option maxRecDepth 100000 in
theorem ggX11_hall_X11_bare : GoodIn wsX11_hall wsX11_bare := goodIn_sub (sub_g [(10, [0, 0, 0, 0, 0, 73, 0, 0, 0, 0, 0, 0, 0, 0, 0, 0, 0, 0, 0, 0, 0, 0, 0, 0, 0, 0, 0, 0, 0, 0, 0, 0, 0, 0, 0, 0, 0, 0, 0, 0, 0, 0, 0, 0, 0, 0, 0, 0, 0, 0, 0, 0, 0, 0, 0, 0, 0, 0, 0, 0, 0, 0, 0])] rfl) gw_X11_bare
set_option maxRecDepth 100000 in
theorem gX11_hall_X11_bare : GoodIn wsX11_hall (wsV RX11 118 RX11 yX11_bare wsX11_bare) := goodIn_app (goodIn_sub (sub_c (nq_m (n := 6) rfl) (sub_c (nq_m (n := 7) rfl) (sub_c (nq_m (n := 8) rfl) (sub_c (nq_m (n := 9) rfl) sub_n)))) (by decide +kernel)) ggX11_hall_X11_bare
set_option maxRecDepth 100000 in
theorem ggX11_hall_X11_here : GoodIn wsX11_hall wsX11_here := goodIn_sub (sub_g [(19, []), (3, [0, 15, 68, 0, 0, 0, 0, 0, 0, 0, 0, 0, 0, 0, 0, 0, 0, 0, 0, 0, 0, 0, 0, 0, 0, 0, 0, 0, 0, 0, 0, 0, 0, 0, 0, 0, 0, 0, 0, 0, 0, 0, 0, 0, 0, 0, 0, 0, 0, 0, 0, 0, 0, 0, 0, 0, 0, 0, 0, 0])] rfl) gw_X11_here
set_option maxRecDepth 100000 in
theorem gX11_hall_X11_here : GoodIn wsX11_hall (wsV RX11 138 RX11 yX11_here wsX11_here) := goodIn_app (goodIn_sub (sub_c (nq_m (n := 16) rfl) (sub_c (nq_m (n := 17) rfl) (sub_c (nq_m (n := 18) rfl) (sub_c (nq_m (n := 9) rfl) sub_n)))) (by decide +kernel)) ggX11_hall_X11_here
set_option maxRecDepth 100000 in
theorem gw_X11_takeClause : wsX11_takeClause.all goodWord = true := by decide +kernel
set_option maxRecDepth 100000 in
theorem ggX11_hall_X11_takeClause : GoodIn wsX11_hall wsX11_takeClause := goodIn_sub (sub_g [(24, []), (12, []), (3, [21, 0, 0, 0]), (9, [19, 0]), (4, [15, 10, 0, 0, 0, 0, 0]), (16, [0, 0, 0, 17, 0, 0, 0, 0, 0, 0, 0, 0, 0, 0, 0, 0, 0, 0, 0, 0]), (2, [51, 0, 0, 0, 0]), (11, [47, 0, 0, 0, 0, 0, 0, 0, 0, 0, 0, 0, 0, 0, 0, 0, 0]), (13, [0, 61, 0, 0, 0]), (15, [73, 0, 0, 0, 0, 0, 0, 0, 0, 0, 0, 0, 0, 0, 0, 0, 0, 0, 0, 0, 0, 0, 0, 0, 0, 0, 0, 0, 0, 0, 0, 0, 0, 0, 0, 0, 0, 0, 0, 0, 0, 0, 0, 0, 0, 0, 0, 0, 0, 0, 0, 0, 0, 0, 0, 0, 0, 0])] rfl) gw_X11_takeClause
set_option maxRecDepth 100000 in
theorem gX11_hall_X11_takeClause : GoodIn wsX11_hall (wsV RX11 218 RX11 yX11_takeClause wsX11_takeClause) := goodIn_app (goodIn_sub (sub_c (nq_m (n := 21) rfl) (sub_c (nq_m (n := 22) rfl) (sub_c (nq_m (n := 23) rfl) (sub_c (nq_m (n := 9) rfl) sub_n)))) (by decide +kernel)) ggX11_hall_X11_takeClause
set_option maxRecDepth 100000 in
theorem ggX11_hall_X11_keepHall : GoodIn wsX11_hall wsX11_keepHall := goodIn_sub (sub_g [(83, []), (11, []), (5, [78]), (60, [24]), (61, [24]), (14, [72]), (15, [72, 0, 0, 0, 0, 0, 0, 0, 0, 0, 0, 0, 0, 0, 0, 0, 0, 0, 0, 0, 0, 0, 0, 0, 0, 0, 0, 0, 0, 0, 0, 0, 0, 0, 0, 0, 0, 0, 0, 0, 0, 0, 0, 0, 0, 0, 0, 0, 0, 0, 0, 0, 0, 0, 0, 0, 0, 0, 0])] rfl) gw_X11_keepHall
set_option maxRecDepth 100000 in
theorem gX11_hall_X11_keepHall : GoodIn wsX11_hall (wsV RX11 121 RX11 yX11_keepHall wsX11_keepHall) := goodIn_app (goodIn_sub (sub_c (nq_m (n := 80) rfl) (sub_c (nq_m (n := 81) rfl) (sub_c (nq_m (n := 82) rfl) (sub_c (nq_m (n := 9) rfl) sub_n)))) (by decide +kernel)) ggX11_hall_X11_keepHall
noncomputable def dX11_hall_0_l : List (Nat × Instr × Nat) := [(0, .aload_n 0, 1), (1, .getfield 215, 3), (4, .ifCond .le 7, 3), (7, .sipush (-1003), 3), (10, .ireturn, 1), (11, .aload_n 0, 1), (12, .iconst (-1), 1), (13, .putfield 25, 3), (16, .aload_n 0, 1), (17, .iconst 0, 1), (18, .putfield 135, 3), (21, .aload_n 0, 1), (22, .invokevirtual 118, 3), (25, .iconst 0, 1), (26, .istore_n 1, 1), (27, .iload_n 1, 1), (28, .ifCond .ne 18, 3), (31, .aload_n 0, 1), (32, .invokevirtual 138, 3), (35, .ifCond .lt 11, 3), (38, .aload_n 0, 1), (39, .invokevirtual 218, 3), (42, .istore_n 1, 1), (43, .goto (-16), 3), (46, .aload_n 0, 1), (47, .iconst 0, 1), (48, .putfield 130, 3), (51, .iload_n 1, 1), (52, .ifCond .le 8, 3), (55, .bipush (-10), 2), (57, .iload_n 1, 1), (58, .isub, 1), (59, .ireturn, 1), (60, .aload_n 0, 1), (61, .invokevirtual 121, 3), (64, .aload_n 0, 1), (65, .getfield 221, 3), (68, .ireturn, 1)]
set_option maxRecDepth 100000 in
theorem dX11_hall_0_g : dX11_hall_0_l.all (fun x => decide (decode cX11_hall x.1 = .ok x.2)) = true := by decide +kernel
noncomputable def dX11_keepHall_0_l : List (Nat × Instr × Nat) := [(0, .aload_n 0, 1), (1, .aload_n 0, 1), (2, .getfield 186, 3), (5, .putfield 221, 3), (8, .iconst 0, 1), (9, .istore_n 1, 1), (10, .iload_n 1, 1), (11, .bipush 24, 2), (13, .if_icmp .ge 33, 3), (16, .aload_n 0, 1), (17, .getfield 7, 3), (20, .iload_n 1, 1), (21, .aload_n 0, 1), (22, .getfield 29, 3), (25, .iload_n 1, 1), (26, .iaload, 1), (27, .iastore, 1), (28, .aload_n 0, 1), (29, .getfield 13, 3), (32, .iload_n 1, 1), (33, .aload_n 0, 1), (34, .getfield 32, 3), (37, .iload_n 1, 1), (38, .iaload, 1), (39, .iastore, 1), (40, .iinc 1 1, 3), (43, .goto (-33), 3), (46, .iconst 0, 1), (47, .istore_n 1, 1), (48, .iload_n 1, 1), (49, .bipush 12, 2), (51, .if_icmp .ge 21, 3), (54, .aload_n 0, 1), (55, .getfield 16, 3), (58, .iload_n 1, 1), (59, .aload_n 0, 1), (60, .getfield 35, 3), (63, .iload_n 1, 1), (64, .iaload, 1), (65, .iastore, 1)]
set_option maxRecDepth 100000 in
theorem dX11_keepHall_0_g : dX11_keepHall_0_l.all (fun x => decide (decode cX11_keepHall x.1 = .ok x.2)) = true := by decide +kernel
noncomputable def dX11_keepHall_66_l : List (Nat × Instr × Nat) := [(66, .iinc 1 1, 3), (69, .goto (-21), 3), (72, .iconst 0, 1), (73, .istore_n 1, 1), (74, .iload_n 1, 1), (75, .iconst 5, 1), (76, .if_icmp .ge 21, 3), (79, .aload_n 0, 1), (80, .getfield 19, 3), (83, .iload_n 1, 1), (84, .aload_n 0, 1), (85, .getfield 38, 3), (88, .iload_n 1, 1), (89, .iaload, 1), (90, .iastore, 1), (91, .iinc 1 1, 3), (94, .goto (-20), 3), (97, .aload_n 0, 1), (98, .dup, 1), (99, .getfield 224, 3), (102, .iconst 1, 1), (103, .iadd, 1), (104, .putfield 224, 3), (107, .return_, 1)]
set_option maxRecDepth 100000 in
theorem dX11_keepHall_66_g : dX11_keepHall_66_l.all (fun x => decide (decode cX11_keepHall x.1 = .ok x.2)) = true := by decide +kernel
noncomputable def dX11_fault_0_l : List (Nat × Instr × Nat) := [(0, .aload_n 0, 1), (1, .getfield 25, 3), (4, .ireturn, 1)]
set_option maxRecDepth 100000 in
theorem dX11_fault_0_g : dX11_fault_0_l.all (fun x => decide (decode cX11_fault x.1 = .ok x.2)) = true := by decide +kernel
set_option maxRecDepth 100000 in
theorem ggX11_isPeg_X11_in : GoodIn wsX11_isPeg wsX11_in := goodIn_sub (sub_c (nq_m (n := 5) rfl) sub_n) gw_X11_in
set_option maxRecDepth 100000 in
theorem gX11_isPeg_X11_in : GoodIn wsX11_isPeg (va_wsS RX11 126 yX11_in wsX11_in) := goodIn_app (goodIn_sub (sub_c (nq_m (n := 2) rfl) (sub_c (nq_m (n := 3) rfl) (sub_c (nq_m (n := 4) rfl) sub_n))) (by decide +kernel)) ggX11_isPeg_X11_in
noncomputable def dX11_isPeg_0_l : List (Nat × Instr × Nat) := [(0, .iload_n 1, 1), (1, .i2l, 1), (2, .lconst 0, 1), (3, .aload_n 0, 1), (4, .getfield 221, 3), (7, .iconst 1, 1), (8, .isub, 1), (9, .i2l, 1), (10, .invokestatic 126, 3), (13, .ireturn, 1)]
set_option maxRecDepth 100000 in
theorem dX11_isPeg_0_g : dX11_isPeg_0_l.all (fun x => decide (decode cX11_isPeg x.1 = .ok x.2)) = true := by decide +kernel
set_option maxRecDepth 100000 in
theorem ggX11_isGuest_X11_in : GoodIn wsX11_isGuest wsX11_in := goodIn_sub (sub_c (nq_m (n := 5) rfl) sub_n) gw_X11_in
set_option maxRecDepth 100000 in
theorem gX11_isGuest_X11_in : GoodIn wsX11_isGuest (va_wsS RX11 126 yX11_in wsX11_in) := goodIn_app (goodIn_sub (sub_c (nq_m (n := 2) rfl) (sub_c (nq_m (n := 3) rfl) (sub_c (nq_m (n := 4) rfl) sub_n))) (by decide +kernel)) ggX11_isGuest_X11_in
noncomputable def dX11_isGuest_0_l : List (Nat × Instr × Nat) := [(0, .iload_n 1, 1), (1, .i2l, 1), (2, .lconst 0, 1), (3, .aload_n 0, 1), (4, .getfield 227, 3), (7, .iconst 1, 1), (8, .isub, 1), (9, .i2l, 1), (10, .invokestatic 126, 3), (13, .ireturn, 1)]
set_option maxRecDepth 100000 in
theorem dX11_isGuest_0_g : dX11_isGuest_0_l.all (fun x => decide (decode cX11_isGuest x.1 = .ok x.2)) = true := by decide +kernel
set_option maxRecDepth 100000 in
theorem ggX11_areGuests_X11_in : GoodIn wsX11_areGuests wsX11_in := goodIn_sub (sub_c (nq_m (n := 5) rfl) sub_n) gw_X11_in
set_option maxRecDepth 100000 in
theorem gX11_areGuests_X11_in : GoodIn wsX11_areGuests (va_wsS RX11 126 yX11_in wsX11_in) := goodIn_app (goodIn_sub (sub_c (nq_m (n := 2) rfl) (sub_c (nq_m (n := 3) rfl) (sub_c (nq_m (n := 4) rfl) sub_n))) (by decide +kernel)) ggX11_areGuests_X11_in
noncomputable def dX11_areGuests_0_l : List (Nat × Instr × Nat) := [(0, .iload_n 1, 1), (1, .i2l, 1), (2, .lconst 0, 1), (3, .iconst 1, 1), (4, .aload_n 0, 1), (5, .getfield 227, 3), (8, .ishl, 1), (9, .iconst 1, 1), (10, .isub, 1), (11, .i2l, 1), (12, .invokestatic 126, 3), (15, .ireturn, 1)]
set_option maxRecDepth 100000 in
theorem dX11_areGuests_0_g : dX11_areGuests_0_l.all (fun x => decide (decode cX11_areGuests x.1 = .ok x.2)) = true := by decide +kernel
set_option maxRecDepth 100000 in
theorem gw_X11_isPeg : wsX11_isPeg.all goodWord = true := by decide +kernel
set_option maxRecDepth 100000 in
theorem ggX11_peg_X11_isPeg : GoodIn wsX11_peg wsX11_isPeg := goodIn_sub (sub_g [(8, [0, 0, 0]), (7, [4, 0, 0, 0, 0, 0, 0, 0, 0, 0, 0, 0, 0, 0, 0, 0, 0, 0, 0, 0, 0, 0, 0, 0, 0, 0, 0, 0, 0, 0, 0, 0, 0, 0, 0, 0, 0, 0, 0, 0, 0, 0, 0, 0, 0, 0, 0, 0, 0, 0, 0, 0, 0, 0, 0, 0, 0, 0, 0])] rfl) gw_X11_isPeg
set_option maxRecDepth 100000 in
theorem gX11_peg_X11_isPeg : GoodIn wsX11_peg (wsV RX11 230 RX11 yX11_isPeg wsX11_isPeg) := goodIn_app (goodIn_sub (sub_c (nq_m (n := 4) rfl) (sub_c (nq_m (n := 5) rfl) (sub_c (nq_m (n := 6) rfl) (sub_c (nq_m (n := 7) rfl) sub_n)))) (by decide +kernel)) ggX11_peg_X11_isPeg
noncomputable def dX11_peg_0_l : List (Nat × Instr × Nat) := [(0, .aload_n 0, 1), (1, .iload_n 1, 1), (2, .invokevirtual 230, 3), (5, .ifCond .ne 7, 3), (8, .sipush (-1001), 3), (11, .ireturn, 1), (12, .iload_n 2, 1), (13, .ifCond .ne 12, 3), (16, .aload_n 0, 1), (17, .getfield 7, 3), (20, .iload_n 1, 1), (21, .iaload, 1), (22, .goto 34, 3), (25, .iload_n 2, 1), (26, .iconst 1, 1), (27, .if_icmp .ne 12, 3), (30, .aload_n 0, 1), (31, .getfield 13, 3), (34, .iload_n 1, 1), (35, .iaload, 1), (36, .goto 20, 3), (39, .iload_n 2, 1), (40, .iconst 2, 1), (41, .if_icmp .ne 12, 3), (44, .aload_n 0, 1), (45, .getfield 41, 3), (48, .iload_n 1, 1), (49, .iaload, 1), (50, .goto 6, 3), (53, .sipush (-1002), 3), (56, .ireturn, 1)]
set_option maxRecDepth 100000 in
theorem dX11_peg_0_g : dX11_peg_0_l.all (fun x => decide (decode cX11_peg x.1 = .ok x.2)) = true := by decide +kernel
set_option maxRecDepth 100000 in
theorem ggX11_odds_X11_in : GoodIn wsX11_odds wsX11_in := goodIn_sub (sub_c (nq_m (n := 7) rfl) sub_n) gw_X11_in
set_option maxRecDepth 100000 in
theorem gX11_odds_X11_in : GoodIn wsX11_odds (va_wsS RX11 126 yX11_in wsX11_in) := goodIn_app (goodIn_sub (sub_c (nq_m (n := 4) rfl) (sub_c (nq_m (n := 5) rfl) (sub_c (nq_m (n := 6) rfl) sub_n))) (by decide +kernel)) ggX11_odds_X11_in
noncomputable def dX11_odds_0_l : List (Nat × Instr × Nat) := [(0, .iload_n 1, 1), (1, .i2l, 1), (2, .lconst 0, 1), (3, .ldc2_w 234, 3), (6, .invokestatic 126, 3), (9, .ifCond .eq 28, 3), (12, .iload_n 2, 1), (13, .i2l, 1), (14, .lconst 0, 1), (15, .ldc2_w 236, 3), (18, .invokestatic 126, 3), (21, .ifCond .eq 16, 3), (24, .aload_n 0, 1), (25, .getfield 16, 3), (28, .iconst 3, 1), (29, .iload_n 1, 1), (30, .imul, 1), (31, .iload_n 2, 1), (32, .iadd, 1), (33, .iaload, 1), (34, .goto 6, 3), (37, .sipush (-1002), 3), (40, .ireturn, 1)]
set_option maxRecDepth 100000 in
theorem dX11_odds_0_g : dX11_odds_0_l.all (fun x => decide (decode cX11_odds x.1 = .ok x.2)) = true := by decide +kernel
set_option maxRecDepth 100000 in
theorem ggX11_count_X11_in : GoodIn wsX11_count wsX11_in := goodIn_sub (sub_c (nq_m (n := 13) rfl) sub_n) gw_X11_in
set_option maxRecDepth 100000 in
theorem gX11_count_X11_in : GoodIn wsX11_count (va_wsS RX11 126 yX11_in wsX11_in) := goodIn_app (goodIn_sub (sub_c (nq_m (n := 10) rfl) (sub_c (nq_m (n := 11) rfl) (sub_c (nq_m (n := 12) rfl) sub_n))) (by decide +kernel)) ggX11_count_X11_in
noncomputable def dX11_count_0_l : List (Nat × Instr × Nat) := [(0, .iload_n 1, 1), (1, .tableswitch 91 0 7 #[47, 52, 57, 62, 67, 72, 77, 84], 47), (48, .aload_n 0, 1), (49, .getfield 221, 3), (52, .ireturn, 1), (53, .aload_n 0, 1), (54, .getfield 227, 3), (57, .ireturn, 1), (58, .aload_n 0, 1), (59, .getfield 215, 3), (62, .ireturn, 1), (63, .aload_n 0, 1), (64, .getfield 238, 3), (67, .ireturn, 1), (68, .aload_n 0, 1), (69, .getfield 241, 3), (72, .ireturn, 1), (73, .aload_n 0, 1), (74, .getfield 130, 3), (77, .ireturn, 1), (78, .aload_n 0, 1), (79, .getfield 19, 3), (82, .iconst 3, 1), (83, .iaload, 1), (84, .ireturn, 1), (85, .aload_n 0, 1), (86, .getfield 19, 3), (89, .iconst 4, 1), (90, .iaload, 1), (91, .ireturn, 1), (92, .iload_n 1, 1), (93, .i2l, 1), (94, .ldc2_w 124, 3), (97, .ldc2_w 244, 3), (100, .invokestatic 126, 3), (103, .ifCond .eq 15, 3), (106, .aload_n 0, 1), (107, .getfield 19, 3), (110, .iload_n 1, 1), (111, .bipush 8, 2)]
set_option maxRecDepth 100000 in
theorem dX11_count_0_g : dX11_count_0_l.all (fun x => decide (decode cX11_count x.1 = .ok x.2)) = true := by decide +kernel
noncomputable def dX11_count_113_l : List (Nat × Instr × Nat) := [(113, .isub, 1), (114, .iaload, 1), (115, .goto 6, 3), (118, .sipush (-1002), 3), (121, .ireturn, 1)]
set_option maxRecDepth 100000 in
theorem dX11_count_113_g : dX11_count_113_l.all (fun x => decide (decode cX11_count x.1 = .ok x.2)) = true := by decide +kernel
set_option maxRecDepth 100000 in
theorem ggX11_guest_X11_in : GoodIn wsX11_guest wsX11_in := goodIn_sub (sub_c (nq_m (n := 16) rfl) sub_n) gw_X11_in
set_option maxRecDepth 100000 in
theorem gX11_guest_X11_in : GoodIn wsX11_guest (va_wsS RX11 126 yX11_in wsX11_in) := goodIn_app (goodIn_sub (sub_c (nq_m (n := 13) rfl) (sub_c (nq_m (n := 14) rfl) (sub_c (nq_m (n := 15) rfl) sub_n))) (by decide +kernel)) ggX11_guest_X11_in
noncomputable def dX11_guest_0_l : List (Nat × Instr × Nat) := [(0, .iload_n 1, 1), (1, .i2l, 1), (2, .lconst 0, 1), (3, .ldc2_w 234, 3), (6, .invokestatic 126, 3), (9, .ifCond .eq 40, 3), (12, .iload_n 2, 1), (13, .i2l, 1), (14, .lconst 0, 1), (15, .ldc2_w 236, 3), (18, .invokestatic 126, 3), (21, .ifCond .eq 28, 3), (24, .iload_n 3, 1), (25, .i2l, 1), (26, .lconst 0, 1), (27, .ldc2_w 246, 3), (30, .invokestatic 126, 3), (33, .ifCond .eq 16, 3), (36, .iload 4, 2), (38, .i2l, 1), (39, .lconst 0, 1), (40, .ldc2_w 133, 3), (43, .invokestatic 126, 3), (46, .ifCond .ne 7, 3), (49, .sipush (-1002), 3), (52, .ireturn, 1), (53, .aload_n 0, 1), (54, .getfield 227, 3), (57, .bipush 16, 2), (59, .if_icmp .ne 7, 3), (62, .sipush (-1004), 3), (65, .ireturn, 1), (66, .aload_n 0, 1), (67, .getfield 44, 3), (70, .aload_n 0, 1), (71, .getfield 227, 3), (74, .iload_n 1, 1), (75, .iastore, 1), (76, .aload_n 0, 1), (77, .getfield 47, 3)]
set_option maxRecDepth 100000 in
theorem dX11_guest_0_g : dX11_guest_0_l.all (fun x => decide (decode cX11_guest x.1 = .ok x.2)) = true := by decide +kernel
noncomputable def dX11_guest_80_l : List (Nat × Instr × Nat) := [(80, .aload_n 0, 1), (81, .getfield 227, 3), (84, .iload_n 2, 1), (85, .iastore, 1), (86, .aload_n 0, 1), (87, .getfield 50, 3), (90, .aload_n 0, 1), (91, .getfield 227, 3), (94, .iload_n 3, 1), (95, .iastore, 1), (96, .aload_n 0, 1), (97, .getfield 53, 3), (100, .aload_n 0, 1), (101, .getfield 227, 3), (104, .iload 4, 2), (106, .iastore, 1), (107, .aload_n 0, 1), (108, .getfield 56, 3), (111, .aload_n 0, 1), (112, .getfield 227, 3), (115, .iconst (-1), 1), (116, .iastore, 1), (117, .aload_n 0, 1), (118, .getfield 59, 3), (121, .aload_n 0, 1), (122, .getfield 227, 3), (125, .iconst (-1), 1), (126, .iastore, 1), (127, .aload_n 0, 1), (128, .getfield 62, 3), (131, .aload_n 0, 1), (132, .getfield 227, 3), (135, .iconst (-1), 1), (136, .iastore, 1), (137, .aload_n 0, 1), (138, .dup, 1), (139, .getfield 227, 3), (142, .iconst 1, 1), (143, .iadd, 1), (144, .putfield 227, 3)]
set_option maxRecDepth 100000 in
theorem dX11_guest_80_g : dX11_guest_80_l.all (fun x => decide (decode cX11_guest x.1 = .ok x.2)) = true := by decide +kernel
noncomputable def dX11_guest_147_l : List (Nat × Instr × Nat) := [(147, .aload_n 0, 1), (148, .getfield 227, 3), (151, .iconst 1, 1), (152, .isub, 1), (153, .ireturn, 1)]
set_option maxRecDepth 100000 in
theorem dX11_guest_147_g : dX11_guest_147_l.all (fun x => decide (decode cX11_guest x.1 = .ok x.2)) = true := by decide +kernel
noncomputable def dX11_pegOf_0_l : List (Nat × Instr × Nat) := [(0, .iconst (-1), 1), (1, .istore_n 2, 1), (2, .iconst 0, 1), (3, .istore_n 3, 1), (4, .iload_n 3, 1), (5, .aload_n 0, 1), (6, .getfield 221, 3), (9, .if_icmp .ge 25, 3), (12, .aload_n 0, 1), (13, .getfield 41, 3), (16, .iload_n 3, 1), (17, .iaload, 1), (18, .iload_n 1, 1), (19, .if_icmp .ne 7, 3), (22, .iload_n 3, 1), (23, .goto 4, 3), (26, .iload_n 2, 1), (27, .istore_n 2, 1), (28, .iinc 3 1, 3), (31, .goto (-27), 3), (34, .iload_n 2, 1), (35, .ireturn, 1)]
set_option maxRecDepth 100000 in
theorem dX11_pegOf_0_g : dX11_pegOf_0_l.all (fun x => decide (decode cX11_pegOf x.1 = .ok x.2)) = true := by decide +kernel
noncomputable def dX11_holderOf_0_l : List (Nat × Instr × Nat) := [(0, .iconst (-1), 1), (1, .istore_n 2, 1), (2, .iconst 0, 1), (3, .istore_n 3, 1), (4, .iload_n 3, 1), (5, .aload_n 0, 1), (6, .getfield 227, 3), (9, .if_icmp .ge 25, 3), (12, .aload_n 0, 1), (13, .getfield 59, 3), (16, .iload_n 3, 1), (17, .iaload, 1), (18, .iload_n 1, 1), (19, .if_icmp .ne 7, 3), (22, .iload_n 3, 1), (23, .goto 4, 3), (26, .iload_n 2, 1), (27, .istore_n 2, 1), (28, .iinc 3 1, 3), (31, .goto (-27), 3), (34, .iload_n 2, 1), (35, .ireturn, 1)]
set_option maxRecDepth 100000 in
theorem dX11_holderOf_0_g : dX11_holderOf_0_l.all (fun x => decide (decode cX11_holderOf x.1 = .ok x.2)) = true := by decide +kernel
set_option maxRecDepth 100000 in
theorem gw_X11_learntOf : wsX11_learntOf.all goodWord = true := by decide +kernel
set_option maxRecDepth 100000 in
theorem ggX11_expected_X11_learntOf : GoodIn wsX11_expected wsX11_learntOf := goodIn_sub (sub_g [(10, [0, 0, 0, 0, 0, 0, 0, 0, 0, 0, 0, 0, 0, 0, 0, 0, 0, 0, 0, 0, 0, 0, 0, 0, 0, 0, 0, 0, 0, 0, 0, 0, 0, 0, 0, 0, 0, 0, 0, 0, 0, 0, 0, 0, 0, 0, 0, 0, 0, 0, 0, 0, 0, 0, 0, 0, 0, 0, 0, 0, 0, 0])] rfl) gw_X11_learntOf
set_option maxRecDepth 100000 in
theorem gX11_expected_X11_learntOf : GoodIn wsX11_expected (wsV RX11 251 RX11 yX11_learntOf wsX11_learntOf) := goodIn_app (goodIn_sub (sub_c (nq_m (n := 6) rfl) (sub_c (nq_m (n := 7) rfl) (sub_c (nq_m (n := 8) rfl) (sub_c (nq_m (n := 9) rfl) sub_n)))) (by decide +kernel)) ggX11_expected_X11_learntOf
noncomputable def dX11_expected_0_l : List (Nat × Instr × Nat) := [(0, .iconst 0, 1), (1, .istore_n 2, 1), (2, .iconst 0, 1), (3, .istore_n 3, 1), (4, .iload_n 3, 1), (5, .iconst 3, 1), (6, .if_icmp .ge 61, 3), (9, .aload_n 0, 1), (10, .getfield 65, 3), (13, .ifCond .ge 21, 3), (16, .aload_n 0, 1), (17, .getfield 16, 3), (20, .iconst 3, 1), (21, .aload_n 0, 1), (22, .getfield 44, 3), (25, .iload_n 1, 1), (26, .iaload, 1), (27, .imul, 1), (28, .iload_n 3, 1), (29, .iadd, 1), (30, .iaload, 1), (31, .goto 16, 3), (34, .aload_n 0, 1), (35, .aload_n 0, 1), (36, .getfield 65, 3), (39, .aload_n 0, 1), (40, .getfield 248, 3), (43, .iload_n 3, 1), (44, .invokevirtual 251, 3), (47, .istore 4, 2), (49, .iload_n 2, 1), (50, .iload 4, 2), (52, .aload_n 0, 1), (53, .getfield 19, 3), (56, .iload_n 3, 1), (57, .iaload, 1), (58, .imul, 1), (59, .iadd, 1), (60, .istore_n 2, 1), (61, .iinc 3 1, 3)]
set_option maxRecDepth 100000 in
theorem dX11_expected_0_g : dX11_expected_0_l.all (fun x => decide (decode cX11_expected x.1 = .ok x.2)) = true := by decide +kernel
noncomputable def dX11_expected_64_l : List (Nat × Instr × Nat) := [(64, .goto (-60), 3), (67, .iload_n 2, 1), (68, .ireturn, 1)]
set_option maxRecDepth 100000 in
theorem dX11_expected_64_g : dX11_expected_64_l.all (fun x => decide (decode cX11_expected x.1 = .ok x.2)) = true := by decide +kernel
set_option maxRecDepth 100000 in
theorem gw_X11_isGuest : wsX11_isGuest.all goodWord = true := by decide +kernel
set_option maxRecDepth 100000 in
theorem ggX11_told_X11_isGuest : GoodIn wsX11_told wsX11_isGuest := goodIn_sub (sub_g [(11, [0, 0, 0]), (10, [4, 26, 0, 0, 0, 0, 0, 0, 0, 0, 0, 0, 0, 0, 0, 0, 0, 0, 0, 0, 0, 0, 0, 0, 0, 0, 0, 0, 0, 0, 0, 0, 0, 0, 0, 0, 0, 0, 0, 0, 0, 0, 0, 0, 0, 0, 0, 0, 0, 0, 0, 0, 0, 0, 0, 0, 0, 0, 0])] rfl) gw_X11_isGuest
set_option maxRecDepth 100000 in
theorem gX11_told_X11_isGuest : GoodIn wsX11_told (wsV RX11 255 RX11 yX11_isGuest wsX11_isGuest) := goodIn_app (goodIn_sub (sub_c (nq_m (n := 7) rfl) (sub_c (nq_m (n := 8) rfl) (sub_c (nq_m (n := 9) rfl) (sub_c (nq_m (n := 10) rfl) sub_n)))) (by decide +kernel)) ggX11_told_X11_isGuest
set_option maxRecDepth 100000 in
theorem gw_X11_pegOf : wsX11_pegOf.all goodWord = true := by decide +kernel
set_option maxRecDepth 100000 in
theorem ggX11_told_X11_pegOf : GoodIn wsX11_told wsX11_pegOf := goodIn_sub (sub_g [(19, [0, 0, 20, 0, 0, 0, 0, 0, 0, 0, 0, 0, 0, 0, 0, 0, 0, 0, 0, 0, 0, 0, 0, 0, 0, 0, 0, 0, 0, 0, 0, 0, 0, 0, 0, 0, 0, 0, 0, 0, 0, 0, 0, 0, 0, 0, 0, 0, 0, 0, 0, 0, 0, 0, 0, 0, 0, 0, 0, 0])] rfl) gw_X11_pegOf
set_option maxRecDepth 100000 in
theorem gX11_told_X11_pegOf : GoodIn wsX11_told (wsV RX11 258 RX11 yX11_pegOf wsX11_pegOf) := goodIn_app (goodIn_sub (sub_c (nq_m (n := 16) rfl) (sub_c (nq_m (n := 17) rfl) (sub_c (nq_m (n := 18) rfl) (sub_c (nq_m (n := 10) rfl) sub_n)))) (by decide +kernel)) ggX11_told_X11_pegOf
set_option maxRecDepth 100000 in
theorem gw_X11_holderOf : wsX11_holderOf.all goodWord = true := by decide +kernel
set_option maxRecDepth 100000 in
theorem ggX11_told_X11_holderOf : GoodIn wsX11_told wsX11_holderOf := goodIn_sub (sub_g [(25, []), (12, []), (6, [35, 0, 0, 0, 0, 0, 0, 0, 0, 0, 0, 0, 0, 0, 0, 0, 0, 0, 0, 0, 0, 0, 0, 0, 0, 0, 0, 0, 0, 0, 0, 0, 0, 0, 0, 0, 0, 0, 0, 0, 0, 0, 0, 0, 0, 0, 0, 0, 0, 0, 0, 0, 0, 0, 0, 0, 0, 0])] rfl) gw_X11_holderOf
set_option maxRecDepth 100000 in
theorem gX11_told_X11_holderOf : GoodIn wsX11_told (wsV RX11 261 RX11 yX11_holderOf wsX11_holderOf) := goodIn_app (goodIn_sub (sub_c (nq_m (n := 22) rfl) (sub_c (nq_m (n := 23) rfl) (sub_c (nq_m (n := 24) rfl) (sub_c (nq_m (n := 10) rfl) sub_n)))) (by decide +kernel)) ggX11_told_X11_holderOf
set_option maxRecDepth 100000 in
theorem gw_X11_expected : wsX11_expected.all goodWord = true := by decide +kernel
set_option maxRecDepth 100000 in
theorem ggX11_told_X11_expected : GoodIn wsX11_told wsX11_expected := goodIn_sub (sub_g [(29, [0, 0]), (1, [30, 0, 0, 0, 0]), (10, [26, 0, 0, 0, 0, 0, 0, 0, 0, 0, 0, 0, 0, 0, 0, 0, 0, 0, 0, 0, 0, 0, 0, 0, 0, 0, 0, 0, 0, 0, 0, 0, 0, 0, 0, 0, 0, 0, 0, 0, 0, 0, 0, 0, 0, 0, 0, 0, 0, 0, 0, 0, 0, 0, 0, 0, 0, 0, 0, 0, 0, 0, 0])] rfl) gw_X11_expected
set_option maxRecDepth 100000 in
theorem gX11_told_X11_expected : GoodIn wsX11_told (wsV RX11 264 RX11 yX11_expected wsX11_expected) := goodIn_app (goodIn_sub (sub_c (nq_m (n := 26) rfl) (sub_c (nq_m (n := 27) rfl) (sub_c (nq_m (n := 28) rfl) (sub_c (nq_m (n := 10) rfl) sub_n)))) (by decide +kernel)) ggX11_told_X11_expected
noncomputable def dX11_told_0_l : List (Nat × Instr × Nat) := [(0, .aload_n 0, 1), (1, .iload_n 1, 1), (2, .invokevirtual 255, 3), (5, .ifCond .ne 7, 3), (8, .sipush (-1001), 3), (11, .ireturn, 1), (12, .iload_n 2, 1), (13, .tableswitch 111 0 8 #[51, 58, 65, 72, 79, 86, 92, 98, 105], 51), (64, .aload_n 0, 1), (65, .getfield 44, 3), (68, .iload_n 1, 1), (69, .iaload, 1), (70, .ireturn, 1), (71, .aload_n 0, 1), (72, .getfield 47, 3), (75, .iload_n 1, 1), (76, .iaload, 1), (77, .ireturn, 1), (78, .aload_n 0, 1), (79, .getfield 50, 3), (82, .iload_n 1, 1), (83, .iaload, 1), (84, .ireturn, 1), (85, .aload_n 0, 1), (86, .getfield 53, 3), (89, .iload_n 1, 1), (90, .iaload, 1), (91, .ireturn, 1), (92, .aload_n 0, 1), (93, .getfield 56, 3), (96, .iload_n 1, 1), (97, .iaload, 1), (98, .ireturn, 1), (99, .aload_n 0, 1), (100, .iload_n 1, 1), (101, .invokevirtual 258, 3), (104, .ireturn, 1), (105, .aload_n 0, 1), (106, .iload_n 1, 1), (107, .invokevirtual 261, 3)]
set_option maxRecDepth 100000 in
theorem dX11_told_0_g : dX11_told_0_l.all (fun x => decide (decode cX11_told x.1 = .ok x.2)) = true := by decide +kernel
noncomputable def dX11_told_110_l : List (Nat × Instr × Nat) := [(110, .ireturn, 1), (111, .aload_n 0, 1), (112, .getfield 59, 3), (115, .iload_n 1, 1), (116, .iaload, 1), (117, .ireturn, 1), (118, .aload_n 0, 1), (119, .iload_n 1, 1), (120, .invokevirtual 264, 3), (123, .ireturn, 1), (124, .sipush (-1002), 3), (127, .ireturn, 1)]
set_option maxRecDepth 100000 in
theorem dX11_told_110_g : dX11_told_110_l.all (fun x => decide (decode cX11_told x.1 = .ok x.2)) = true := by decide +kernel
noncomputable def dX11_nextPeg_0_l : List (Nat × Instr × Nat) := [(0, .iconst (-1), 1), (1, .istore_n 2, 1), (2, .aload_n 0, 1), (3, .getfield 221, 3), (6, .iconst 1, 1), (7, .isub, 1), (8, .istore_n 3, 1), (9, .iload_n 3, 1), (10, .ifCond .lt 65, 3), (13, .aload_n 0, 1), (14, .getfield 71, 3), (17, .iload_n 3, 1), (18, .baload, 1), (19, .ifCond .ne 17, 3), (22, .aload_n 0, 1), (23, .getfield 7, 3), (26, .iload_n 3, 1), (27, .iaload, 1), (28, .iload_n 1, 1), (29, .if_icmp .ne 7, 3), (32, .iconst 1, 1), (33, .goto 4, 3), (36, .iconst 0, 1), (37, .istore 4, 2), (39, .iload 4, 2), (41, .ifCond .eq 26, 3), (44, .iload_n 2, 1), (45, .ifCond .lt 18, 3), (48, .aload_n 0, 1), (49, .getfield 13, 3), (52, .iload_n 3, 1), (53, .iaload, 1), (54, .aload_n 0, 1), (55, .getfield 13, 3), (58, .iload_n 2, 1), (59, .iaload, 1), (60, .if_icmp .gt 7, 3), (63, .iload_n 3, 1), (64, .goto 4, 3), (67, .iload_n 2, 1)]
set_option maxRecDepth 100000 in
theorem dX11_nextPeg_0_g : dX11_nextPeg_0_l.all (fun x => decide (decode cX11_nextPeg x.1 = .ok x.2)) = true := by decide +kernel
noncomputable def dX11_nextPeg_68_l : List (Nat × Instr × Nat) := [(68, .istore_n 2, 1), (69, .iinc 3 (-1), 3), (72, .goto (-63), 3), (75, .iload_n 2, 1), (76, .ireturn, 1)]
set_option maxRecDepth 100000 in
theorem dX11_nextPeg_68_g : dX11_nextPeg_68_l.all (fun x => decide (decode cX11_nextPeg x.1 = .ok x.2)) = true := by decide +kernel
set_option maxRecDepth 100000 in
theorem ggX11_nextGuest_X11_expected : GoodIn wsX11_nextGuest wsX11_expected := goodIn_sub (sub_g [(7, [0, 0, 0, 0, 0, 0, 0, 0]), (6, [9, 0, 0, 0, 0, 0, 0, 0, 0, 0, 0, 0, 0, 0, 0, 0, 0, 0, 0, 0, 0, 0, 0, 0, 0, 0, 0, 0, 0, 0, 0, 0, 0, 0, 0, 0, 0, 0, 0, 0, 0, 0, 0, 0, 0, 0, 0, 0, 0, 0, 0, 0, 0, 0, 0, 0, 0, 0, 0, 0, 0, 0, 0])] rfl) gw_X11_expected
set_option maxRecDepth 100000 in
theorem gX11_nextGuest_X11_expected : GoodIn wsX11_nextGuest (wsV RX11 264 RX11 yX11_expected wsX11_expected) := goodIn_app (goodIn_sub (sub_c (nq_m (n := 3) rfl) (sub_c (nq_m (n := 4) rfl) (sub_c (nq_m (n := 5) rfl) (sub_c (nq_m (n := 6) rfl) sub_n)))) (by decide +kernel)) ggX11_nextGuest_X11_expected
noncomputable def dX11_nextGuest_0_l : List (Nat × Instr × Nat) := [(0, .iconst (-1), 1), (1, .istore_n 2, 1), (2, .iconst 0, 1), (3, .istore_n 3, 1), (4, .iload_n 3, 1), (5, .aload_n 0, 1), (6, .getfield 227, 3), (9, .if_icmp .ge 57, 3), (12, .aload_n 0, 1), (13, .getfield 68, 3), (16, .iload_n 3, 1), (17, .iaload, 1), (18, .ifCond .ge 7, 3), (21, .iconst 1, 1), (22, .goto 4, 3), (25, .iconst 0, 1), (26, .istore 4, 2), (28, .iload 4, 2), (30, .ifCond .eq 28, 3), (33, .iload_n 2, 1), (34, .ifCond .lt 20, 3), (37, .iload_n 1, 1), (38, .ifCond .ne 20, 3), (41, .aload_n 0, 1), (42, .iload_n 3, 1), (43, .invokevirtual 264, 3), (46, .aload_n 0, 1), (47, .iload_n 2, 1), (48, .invokevirtual 264, 3), (51, .if_icmp .le 7, 3), (54, .iload_n 3, 1), (55, .goto 4, 3), (58, .iload_n 2, 1), (59, .istore_n 2, 1), (60, .iinc 3 1, 3), (63, .goto (-59), 3), (66, .iload_n 2, 1), (67, .ireturn, 1)]
set_option maxRecDepth 100000 in
theorem dX11_nextGuest_0_g : dX11_nextGuest_0_l.all (fun x => decide (decode cX11_nextGuest x.1 = .ok x.2)) = true := by decide +kernel
set_option maxRecDepth 100000 in
theorem gw_X11_nextGuest : wsX11_nextGuest.all goodWord = true := by decide +kernel
set_option maxRecDepth 100000 in
theorem ggX11_findPlan_X11_nextGuest : GoodIn wsX11_findPlan wsX11_nextGuest := goodIn_sub (sub_g [(9, []), (1, [0, 7, 0, 0]), (8, [4, 0, 0, 0, 0, 0, 0, 0, 0, 0, 0, 0, 0, 0, 7, 0, 0, 0, 0, 0, 0, 0, 0, 0, 0, 0, 0, 0, 0, 0, 0, 0, 0, 0, 0, 0, 0, 0, 0, 0, 0, 0, 0, 0, 0, 0, 0, 0, 0, 0, 0, 0, 0, 0, 0, 0, 0, 0, 0, 0, 0, 0, 0, 0, 0, 0, 0, 0, 0, 0, 0, 0])] rfl) gw_X11_nextGuest
set_option maxRecDepth 100000 in
theorem gX11_findPlan_X11_nextGuest : GoodIn wsX11_findPlan (wsV RX11 267 RX11 yX11_nextGuest wsX11_nextGuest) := goodIn_app (goodIn_sub (sub_c (nq_m (n := 5) rfl) (sub_c (nq_m (n := 6) rfl) (sub_c (nq_m (n := 7) rfl) (sub_c (nq_m (n := 8) rfl) sub_n)))) (by decide +kernel)) ggX11_findPlan_X11_nextGuest
set_option maxRecDepth 100000 in
theorem gw_X11_nextPeg : wsX11_nextPeg.all goodWord = true := by decide +kernel
set_option maxRecDepth 100000 in
theorem ggX11_findPlan_X11_nextPeg : GoodIn wsX11_findPlan wsX11_nextPeg := goodIn_sub (sub_g [(30, [0]), (3, [28, 0, 0, 0, 0, 0, 0, 0, 0, 0, 0, 0, 0, 0, 0, 0, 0, 0, 0, 0, 0, 0, 0, 0, 0, 0, 0, 0, 0, 0, 0, 0, 0, 0, 0, 0, 0, 0, 0, 0, 0, 0, 0, 0, 0, 0, 0, 0, 0, 0, 0, 0, 0, 0, 0, 0, 0, 0, 0, 0])] rfl) gw_X11_nextPeg
set_option maxRecDepth 100000 in
theorem gX11_findPlan_X11_nextPeg : GoodIn wsX11_findPlan (wsV RX11 271 RX11 yX11_nextPeg wsX11_nextPeg) := goodIn_app (goodIn_sub (sub_c (nq_m (n := 27) rfl) (sub_c (nq_m (n := 28) rfl) (sub_c (nq_m (n := 29) rfl) (sub_c (nq_m (n := 8) rfl) sub_n)))) (by decide +kernel)) ggX11_findPlan_X11_nextPeg
noncomputable def dX11_findPlan_0_l : List (Nat × Instr × Nat) := [(0, .iconst 0, 1), (1, .istore_n 2, 1), (2, .iload_n 2, 1), (3, .aload_n 0, 1), (4, .getfield 227, 3), (7, .if_icmp .ge 16, 3), (10, .aload_n 0, 1), (11, .getfield 68, 3), (14, .iload_n 2, 1), (15, .iconst (-1), 1), (16, .iastore, 1), (17, .iinc 2 1, 3), (20, .goto (-18), 3), (23, .iconst 0, 1), (24, .istore_n 2, 1), (25, .iload_n 2, 1), (26, .bipush 24, 2), (28, .if_icmp .ge 16, 3), (31, .aload_n 0, 1), (32, .getfield 71, 3), (35, .iload_n 2, 1), (36, .iconst 0, 1), (37, .bastore, 1), (38, .iinc 2 1, 3), (41, .goto (-16), 3), (44, .iconst 0, 1), (45, .istore_n 2, 1), (46, .iload_n 2, 1), (47, .aload_n 0, 1), (48, .getfield 227, 3), (51, .if_icmp .ge 50, 3), (54, .aload_n 0, 1), (55, .iload_n 1, 1), (56, .invokevirtual 267, 3), (59, .istore_n 3, 1), (60, .aload_n 0, 1), (61, .aload_n 0, 1), (62, .getfield 47, 3), (65, .iload_n 3, 1), (66, .iaload, 1)]
set_option maxRecDepth 100000 in
theorem dX11_findPlan_0_g : dX11_findPlan_0_l.all (fun x => decide (decode cX11_findPlan x.1 = .ok x.2)) = true := by decide +kernel
noncomputable def dX11_findPlan_67_l : List (Nat × Instr × Nat) := [(67, .invokevirtual 271, 3), (70, .istore 4, 2), (72, .iload 4, 2), (74, .ifCond .ge 5, 3), (77, .iconst 0, 1), (78, .ireturn, 1), (79, .aload_n 0, 1), (80, .getfield 68, 3), (83, .iload_n 3, 1), (84, .iload 4, 2), (86, .iastore, 1), (87, .aload_n 0, 1), (88, .getfield 71, 3), (91, .iload 4, 2), (93, .iconst 1, 1), (94, .bastore, 1), (95, .iinc 2 1, 3), (98, .goto (-52), 3), (101, .iconst 1, 1), (102, .ireturn, 1)]
set_option maxRecDepth 100000 in
theorem dX11_findPlan_67_g : dX11_findPlan_67_l.all (fun x => decide (decode cX11_findPlan x.1 = .ok x.2)) = true := by decide +kernel
set_option maxRecDepth 100000 in
theorem ggX11_plan_X11_isGuest : GoodIn wsX11_plan wsX11_isGuest := goodIn_sub (sub_g [(8, []), (1, [7, 0]), (7, [3, 33, 0, 0, 0, 0, 0, 0, 0, 0, 0, 0, 0, 0, 0, 0, 0, 0, 0, 0, 0, 0, 0, 0, 0, 0, 0, 0, 0, 0, 0, 0, 0, 0, 0, 0, 0, 0, 0, 0, 0, 0, 0, 0, 0, 0, 0, 0, 0, 0, 0, 0, 0, 0, 0, 0, 0, 0, 0])] rfl) gw_X11_isGuest
set_option maxRecDepth 100000 in
theorem gX11_plan_X11_isGuest : GoodIn wsX11_plan (wsV RX11 255 RX11 yX11_isGuest wsX11_isGuest) := goodIn_app (goodIn_sub (sub_c (nq_m (n := 4) rfl) (sub_c (nq_m (n := 5) rfl) (sub_c (nq_m (n := 6) rfl) (sub_c (nq_m (n := 7) rfl) sub_n)))) (by decide +kernel)) ggX11_plan_X11_isGuest
set_option maxRecDepth 100000 in
theorem gw_X11_findPlan : wsX11_findPlan.all goodWord = true := by decide +kernel
set_option maxRecDepth 100000 in
theorem ggX11_plan_X11_findPlan : GoodIn wsX11_plan wsX11_findPlan := goodIn_sub (sub_g [(15, []), (1, [1, 12, 0, 0, 0, 0]), (7, [13, 0, 0, 0, 0, 0, 0, 0, 0, 0, 0, 0, 0, 0, 0, 0, 0, 0, 0, 0, 0, 0, 0, 0]), (2, [42, 0, 0, 0, 0, 0, 0, 0, 0, 0, 0, 0, 0, 0, 0, 0, 0, 0, 0, 0, 0, 0, 0, 0, 0, 0, 0, 0, 0, 0, 0, 0, 0, 0, 0, 0, 0, 0, 0, 0, 0, 0, 0, 0, 0, 0, 0, 0, 0, 0, 0, 0, 0, 0, 0, 0, 0, 0])] rfl) gw_X11_findPlan
set_option maxRecDepth 100000 in
theorem gX11_plan_X11_findPlan : GoodIn wsX11_plan (wsV RX11 274 RX11 yX11_findPlan wsX11_findPlan) := goodIn_app (goodIn_sub (sub_c (nq_m (n := 12) rfl) (sub_c (nq_m (n := 13) rfl) (sub_c (nq_m (n := 14) rfl) (sub_c (nq_m (n := 7) rfl) sub_n)))) (by decide +kernel)) ggX11_plan_X11_findPlan
set_option maxRecDepth 100000 in
theorem ggX11_plan_X11_expected : GoodIn wsX11_plan wsX11_expected := goodIn_sub (sub_g [(25, [0, 0, 0, 0, 0, 0, 0, 0]), (7, [26, 0, 0, 0, 0, 6, 0, 0, 0, 0, 0, 0, 0, 0, 0, 0, 0, 0, 0, 0, 0, 0, 0, 0, 0, 0, 0, 0, 0, 0, 0, 0, 0, 0, 0, 0, 0, 0, 0, 0, 0, 0, 0, 0, 0, 0, 0, 0, 0, 0, 0, 0, 0, 0, 0, 0, 0, 0, 0, 0, 0, 0, 0])] rfl) gw_X11_expected
set_option maxRecDepth 100000 in
theorem gX11_plan_X11_expected : GoodIn wsX11_plan (wsV RX11 264 RX11 yX11_expected wsX11_expected) := goodIn_app (goodIn_sub (sub_c (nq_m (n := 22) rfl) (sub_c (nq_m (n := 23) rfl) (sub_c (nq_m (n := 24) rfl) (sub_c (nq_m (n := 7) rfl) sub_n)))) (by decide +kernel)) ggX11_plan_X11_expected
noncomputable def dX11_plan_0_l : List (Nat × Instr × Nat) := [(0, .iload_n 2, 1), (1, .iconst (-1), 1), (2, .if_icmp .eq 15, 3), (5, .aload_n 0, 1), (6, .iload_n 2, 1), (7, .invokevirtual 255, 3), (10, .ifCond .ne 7, 3), (13, .sipush (-1001), 3), (16, .ireturn, 1), (17, .aload_n 0, 1), (18, .iload_n 1, 1), (19, .invokevirtual 274, 3), (22, .ifCond .ne 5, 3), (25, .iconst (-1), 1), (26, .ireturn, 1), (27, .iconst 0, 1), (28, .istore_n 3, 1), (29, .iconst 0, 1), (30, .istore 4, 2), (32, .iload 4, 2), (34, .aload_n 0, 1), (35, .getfield 227, 3), (38, .if_icmp .ge 31, 3), (41, .iload_n 3, 1), (42, .aload_n 0, 1), (43, .iload 4, 2), (45, .invokevirtual 264, 3), (48, .aload_n 0, 1), (49, .getfield 13, 3), (52, .aload_n 0, 1), (53, .getfield 68, 3), (56, .iload 4, 2), (58, .iaload, 1), (59, .iaload, 1), (60, .imul, 1), (61, .iadd, 1), (62, .istore_n 3, 1), (63, .iinc 4 1, 3), (66, .goto (-34), 3), (69, .iload_n 2, 1)]
set_option maxRecDepth 100000 in
theorem dX11_plan_0_g : dX11_plan_0_l.all (fun x => decide (decode cX11_plan x.1 = .ok x.2)) = true := by decide +kernel
noncomputable def dX11_plan_70_l : List (Nat × Instr × Nat) := [(70, .iconst (-1), 1), (71, .if_icmp .ne 7, 3), (74, .iload_n 3, 1), (75, .goto 9, 3), (78, .aload_n 0, 1), (79, .getfield 68, 3), (82, .iload_n 2, 1), (83, .iaload, 1), (84, .ireturn, 1)]
set_option maxRecDepth 100000 in
theorem dX11_plan_70_g : dX11_plan_70_l.all (fun x => decide (decode cX11_plan x.1 = .ok x.2)) = true := by decide +kernel
set_option maxRecDepth 100000 in
theorem ggX11_isNight_X11_in : GoodIn wsX11_isNight wsX11_in := goodIn_sub (sub_c (nq_m (n := 5) rfl) sub_n) gw_X11_in
set_option maxRecDepth 100000 in
theorem gX11_isNight_X11_in : GoodIn wsX11_isNight (va_wsS RX11 126 yX11_in wsX11_in) := goodIn_app (goodIn_sub (sub_c (nq_m (n := 2) rfl) (sub_c (nq_m (n := 3) rfl) (sub_c (nq_m (n := 4) rfl) sub_n))) (by decide +kernel)) ggX11_isNight_X11_in
noncomputable def dX11_isNight_0_l : List (Nat × Instr × Nat) := [(0, .iload_n 0, 1), (1, .i2l, 1), (2, .lconst 0, 1), (3, .ldc2_w 234, 3), (6, .invokestatic 126, 3), (9, .ifCond .eq 17, 3), (12, .iload_n 1, 1), (13, .i2l, 1), (14, .lconst 0, 1), (15, .lconst 1, 1), (16, .invokestatic 126, 3), (19, .ifCond .eq 7, 3), (22, .iconst 1, 1), (23, .goto 4, 3), (26, .iconst 0, 1), (27, .ireturn, 1)]
set_option maxRecDepth 100000 in
theorem dX11_isNight_0_g : dX11_isNight_0_l.all (fun x => decide (decode cX11_isNight x.1 = .ok x.2)) = true := by decide +kernel
set_option maxRecDepth 100000 in
theorem gw_X11_isNight : wsX11_isNight.all goodWord = true := by decide +kernel
set_option maxRecDepth 100000 in
theorem ggX11_night_X11_isNight : GoodIn wsX11_night wsX11_isNight := goodIn_sub (sub_g [(9, [0, 0, 0]), (8, [4])] rfl) gw_X11_isNight
set_option maxRecDepth 100000 in
theorem gX11_night_X11_isNight : GoodIn wsX11_night (va_wsS RX11 278 yX11_isNight wsX11_isNight) := goodIn_app (goodIn_sub (sub_c (nq_m (n := 6) rfl) (sub_c (nq_m (n := 7) rfl) (sub_c (nq_m (n := 8) rfl) sub_n))) (by decide +kernel)) ggX11_night_X11_isNight
set_option maxRecDepth 100000 in
theorem ggX11_night_X11_in : GoodIn wsX11_night wsX11_in := goodIn_sub (sub_c (nq_m (n := 13) rfl) sub_n) gw_X11_in
set_option maxRecDepth 100000 in
theorem gX11_night_X11_in : GoodIn wsX11_night (va_wsS RX11 126 yX11_in wsX11_in) := goodIn_app (goodIn_sub (sub_c (nq_m (n := 11) rfl) (sub_c (nq_m (n := 12) rfl) (sub_c (nq_m (n := 8) rfl) sub_n))) (by decide +kernel)) ggX11_night_X11_in
noncomputable def dX11_night_0_l : List (Nat × Instr × Nat) := [(0, .iload_n 1, 1), (1, .iload_n 2, 1), (2, .invokestatic 278, 3), (5, .ifCond .eq 41, 3), (8, .iload_n 3, 1), (9, .i2l, 1), (10, .lconst 0, 1), (11, .ldc2_w 282, 3), (14, .invokestatic 126, 3), (17, .ifCond .eq 29, 3), (20, .iload 4, 2), (22, .i2l, 1), (23, .lconst 0, 1), (24, .ldc2_w 282, 3), (27, .invokestatic 126, 3), (30, .ifCond .eq 16, 3), (33, .iload 5, 2), (35, .i2l, 1), (36, .lconst 0, 1), (37, .ldc2_w 282, 3), (40, .invokestatic 126, 3), (43, .ifCond .ne 7, 3), (46, .sipush (-1002), 3), (49, .ireturn, 1), (50, .aload_n 0, 1), (51, .getfield 241, 3), (54, .bipush 60, 2), (56, .if_icmp .ne 7, 3), (59, .sipush (-1004), 3), (62, .ireturn, 1), (63, .aload_n 0, 1), (64, .getfield 75, 3), (67, .aload_n 0, 1), (68, .getfield 241, 3), (71, .iload_n 1, 1), (72, .iastore, 1), (73, .aload_n 0, 1), (74, .getfield 78, 3), (77, .aload_n 0, 1), (78, .getfield 241, 3)]
set_option maxRecDepth 100000 in
theorem dX11_night_0_g : dX11_night_0_l.all (fun x => decide (decode cX11_night x.1 = .ok x.2)) = true := by decide +kernel
noncomputable def dX11_night_81_l : List (Nat × Instr × Nat) := [(81, .iload_n 2, 1), (82, .iastore, 1), (83, .aload_n 0, 1), (84, .getfield 81, 3), (87, .iconst 3, 1), (88, .aload_n 0, 1), (89, .getfield 241, 3), (92, .imul, 1), (93, .iload_n 3, 1), (94, .iastore, 1), (95, .aload_n 0, 1), (96, .getfield 81, 3), (99, .iconst 3, 1), (100, .aload_n 0, 1), (101, .getfield 241, 3), (104, .imul, 1), (105, .iconst 1, 1), (106, .iadd, 1), (107, .iload 4, 2), (109, .iastore, 1), (110, .aload_n 0, 1), (111, .getfield 81, 3), (114, .iconst 3, 1), (115, .aload_n 0, 1), (116, .getfield 241, 3), (119, .imul, 1), (120, .iconst 2, 1), (121, .iadd, 1), (122, .iload 5, 2), (124, .iastore, 1), (125, .aload_n 0, 1), (126, .dup, 1), (127, .getfield 241, 3), (130, .iconst 1, 1), (131, .iadd, 1), (132, .putfield 241, 3), (135, .aload_n 0, 1), (136, .getfield 241, 3), (139, .ireturn, 1)]
set_option maxRecDepth 100000 in
theorem dX11_night_81_g : dX11_night_81_l.all (fun x => decide (decode cX11_night x.1 = .ok x.2)) = true := by decide +kernel
noncomputable def dX11_learntOf_0_l : List (Nat × Instr × Nat) := [(0, .iconst 3, 1), (1, .istore 4, 2), (3, .iconst 1, 1), (4, .istore 5, 2), (6, .iconst 1, 1), (7, .istore 6, 2), (9, .iconst 0, 1), (10, .istore 7, 2), (12, .iload 7, 2), (14, .aload_n 0, 1), (15, .getfield 241, 3), (18, .if_icmp .ge 99, 3), (21, .aload_n 0, 1), (22, .getfield 75, 3), (25, .iload 7, 2), (27, .iaload, 1), (28, .iload_n 1, 1), (29, .if_icmp .ne 82, 3), (32, .aload_n 0, 1), (33, .getfield 78, 3), (36, .iload 7, 2), (38, .iaload, 1), (39, .iload_n 2, 1), (40, .if_icmp .ne 71, 3), (43, .iload 5, 2), (45, .aload_n 0, 1), (46, .getfield 81, 3), (49, .iconst 3, 1), (50, .iload 7, 2), (52, .imul, 1), (53, .iaload, 1), (54, .iadd, 1), (55, .istore 5, 2), (57, .iload 6, 2), (59, .aload_n 0, 1), (60, .getfield 81, 3), (63, .iconst 3, 1), (64, .iload 7, 2), (66, .imul, 1), (67, .iconst 1, 1)]
set_option maxRecDepth 100000 in
theorem dX11_learntOf_0_g : dX11_learntOf_0_l.all (fun x => decide (decode cX11_learntOf x.1 = .ok x.2)) = true := by decide +kernel
noncomputable def dX11_learntOf_68_l : List (Nat × Instr × Nat) := [(68, .iadd, 1), (69, .iaload, 1), (70, .iadd, 1), (71, .istore 6, 2), (73, .iload 4, 2), (75, .aload_n 0, 1), (76, .getfield 81, 3), (79, .iconst 3, 1), (80, .iload 7, 2), (82, .imul, 1), (83, .iaload, 1), (84, .aload_n 0, 1), (85, .getfield 81, 3), (88, .iconst 3, 1), (89, .iload 7, 2), (91, .imul, 1), (92, .iconst 1, 1), (93, .iadd, 1), (94, .iaload, 1), (95, .iadd, 1), (96, .aload_n 0, 1), (97, .getfield 81, 3), (100, .iconst 3, 1), (101, .iload 7, 2), (103, .imul, 1), (104, .iconst 2, 1), (105, .iadd, 1), (106, .iaload, 1), (107, .iadd, 1), (108, .iadd, 1), (109, .istore 4, 2), (111, .iinc 7 1, 3), (114, .goto (-102), 3), (117, .sipush 1000, 3), (120, .iload 5, 2), (122, .imul, 1), (123, .iload 4, 2), (125, .idiv, 1), (126, .istore 7, 2), (128, .sipush 1000, 3)]
set_option maxRecDepth 100000 in
theorem dX11_learntOf_68_g : dX11_learntOf_68_l.all (fun x => decide (decode cX11_learntOf x.1 = .ok x.2)) = true := by decide +kernel
noncomputable def dX11_learntOf_131_l : List (Nat × Instr × Nat) := [(131, .iload 6, 2), (133, .imul, 1), (134, .iload 4, 2), (136, .idiv, 1), (137, .istore 8, 2), (139, .iload_n 3, 1), (140, .ifCond .ne 8, 3), (143, .iload 7, 2), (145, .goto 22, 3), (148, .iload_n 3, 1), (149, .iconst 1, 1), (150, .if_icmp .ne 8, 3), (153, .iload 8, 2), (155, .goto 12, 3), (158, .sipush 1000, 3), (161, .iload 7, 2), (163, .isub, 1), (164, .iload 8, 2), (166, .isub, 1), (167, .ireturn, 1)]
set_option maxRecDepth 100000 in
theorem dX11_learntOf_131_g : dX11_learntOf_131_l.all (fun x => decide (decode cX11_learntOf x.1 = .ok x.2)) = true := by decide +kernel
set_option maxRecDepth 100000 in
theorem ggX11_learnt_X11_isNight : GoodIn wsX11_learnt wsX11_isNight := goodIn_sub (sub_g [(5, [0, 0, 0]), (4, [4])] rfl) gw_X11_isNight
set_option maxRecDepth 100000 in
theorem gX11_learnt_X11_isNight : GoodIn wsX11_learnt (va_wsS RX11 278 yX11_isNight wsX11_isNight) := goodIn_app (goodIn_sub (sub_c (nq_m (n := 2) rfl) (sub_c (nq_m (n := 3) rfl) (sub_c (nq_m (n := 4) rfl) sub_n))) (by decide +kernel)) ggX11_learnt_X11_isNight
set_option maxRecDepth 100000 in
theorem ggX11_learnt_X11_in : GoodIn wsX11_learnt wsX11_in := goodIn_sub (sub_c (nq_m (n := 9) rfl) sub_n) gw_X11_in
set_option maxRecDepth 100000 in
theorem gX11_learnt_X11_in : GoodIn wsX11_learnt (va_wsS RX11 126 yX11_in wsX11_in) := goodIn_app (goodIn_sub (sub_c (nq_m (n := 7) rfl) (sub_c (nq_m (n := 8) rfl) (sub_c (nq_m (n := 4) rfl) sub_n))) (by decide +kernel)) ggX11_learnt_X11_in
set_option maxRecDepth 100000 in
theorem ggX11_learnt_X11_learntOf : GoodIn wsX11_learnt wsX11_learntOf := goodIn_sub (sub_g [(13, [0, 0, 0, 0, 0, 0, 0, 0, 0, 0, 0, 0, 0, 0, 0, 0, 0, 0, 0, 0, 0, 0, 0, 0, 0, 0, 0, 0, 0, 0, 0, 0, 0, 0, 0, 0, 0, 0, 0, 0, 0, 0, 0, 0, 0, 0, 0, 0, 0, 0, 0, 0, 0, 0, 0, 0, 0, 0, 0, 0, 0, 0])] rfl) gw_X11_learntOf
set_option maxRecDepth 100000 in
theorem gX11_learnt_X11_learntOf : GoodIn wsX11_learnt (wsV RX11 251 RX11 yX11_learntOf wsX11_learntOf) := goodIn_app (goodIn_sub (sub_c (nq_m (n := 10) rfl) (sub_c (nq_m (n := 11) rfl) (sub_c (nq_m (n := 12) rfl) (sub_c (nq_m (n := 4) rfl) sub_n)))) (by decide +kernel)) ggX11_learnt_X11_learntOf
noncomputable def dX11_learnt_0_l : List (Nat × Instr × Nat) := [(0, .iload_n 1, 1), (1, .iload_n 2, 1), (2, .invokestatic 278, 3), (5, .ifCond .eq 25, 3), (8, .iload_n 3, 1), (9, .i2l, 1), (10, .lconst 0, 1), (11, .ldc2_w 236, 3), (14, .invokestatic 126, 3), (17, .ifCond .eq 13, 3), (20, .aload_n 0, 1), (21, .iload_n 1, 1), (22, .iload_n 2, 1), (23, .iload_n 3, 1), (24, .invokevirtual 251, 3), (27, .goto 6, 3), (30, .sipush (-1002), 3), (33, .ireturn, 1)]
set_option maxRecDepth 100000 in
theorem dX11_learnt_0_g : dX11_learnt_0_l.all (fun x => decide (decode cX11_learnt x.1 = .ok x.2)) = true := by decide +kernel
set_option maxRecDepth 100000 in
theorem ggX11_tonight_X11_isNight : GoodIn wsX11_tonight wsX11_isNight := goodIn_sub (sub_g [(6, [0, 0, 0]), (5, [4])] rfl) gw_X11_isNight
set_option maxRecDepth 100000 in
theorem gX11_tonight_X11_isNight : GoodIn wsX11_tonight (va_wsS RX11 278 yX11_isNight wsX11_isNight) := goodIn_app (goodIn_sub (sub_c (nq_m (n := 3) rfl) (sub_c (nq_m (n := 4) rfl) (sub_c (nq_m (n := 5) rfl) sub_n))) (by decide +kernel)) ggX11_tonight_X11_isNight
noncomputable def dX11_tonight_0_l : List (Nat × Instr × Nat) := [(0, .iload_n 1, 1), (1, .iconst (-1), 1), (2, .if_icmp .eq 15, 3), (5, .iload_n 1, 1), (6, .iload_n 2, 1), (7, .invokestatic 278, 3), (10, .ifCond .ne 7, 3), (13, .sipush (-1002), 3), (16, .ireturn, 1), (17, .aload_n 0, 1), (18, .iload_n 1, 1), (19, .putfield 65, 3), (22, .aload_n 0, 1), (23, .iload_n 1, 1), (24, .iconst (-1), 1), (25, .if_icmp .ne 7, 3), (28, .iconst 0, 1), (29, .goto 4, 3), (32, .iload_n 2, 1), (33, .putfield 248, 3), (36, .iconst 1, 1), (37, .ireturn, 1)]
set_option maxRecDepth 100000 in
theorem dX11_tonight_0_g : dX11_tonight_0_l.all (fun x => decide (decode cX11_tonight x.1 = .ok x.2)) = true := by decide +kernel
noncomputable def dX11_addEvent_0_l : List (Nat × Instr × Nat) := [(0, .bipush 7, 2), (2, .aload_n 0, 1), (3, .getfield 215, 3), (6, .imul, 1), (7, .istore 8, 2), (9, .aload_n 0, 1), (10, .getfield 84, 3), (13, .iload 8, 2), (15, .iload_n 1, 1), (16, .iastore, 1), (17, .aload_n 0, 1), (18, .getfield 84, 3), (21, .iload 8, 2), (23, .iconst 1, 1), (24, .iadd, 1), (25, .iload_n 2, 1), (26, .iastore, 1), (27, .aload_n 0, 1), (28, .getfield 84, 3), (31, .iload 8, 2), (33, .iconst 2, 1), (34, .iadd, 1), (35, .iload_n 3, 1), (36, .iastore, 1), (37, .aload_n 0, 1), (38, .getfield 84, 3), (41, .iload 8, 2), (43, .iconst 3, 1), (44, .iadd, 1), (45, .iload 4, 2), (47, .iastore, 1), (48, .aload_n 0, 1), (49, .getfield 84, 3), (52, .iload 8, 2), (54, .iconst 4, 1), (55, .iadd, 1), (56, .iload 5, 2), (58, .iastore, 1), (59, .aload_n 0, 1), (60, .getfield 84, 3)]
set_option maxRecDepth 100000 in
theorem dX11_addEvent_0_g : dX11_addEvent_0_l.all (fun x => decide (decode cX11_addEvent x.1 = .ok x.2)) = true := by decide +kernel
noncomputable def dX11_addEvent_63_l : List (Nat × Instr × Nat) := [(63, .iload 8, 2), (65, .iconst 5, 1), (66, .iadd, 1), (67, .iload 6, 2), (69, .iastore, 1), (70, .aload_n 0, 1), (71, .getfield 84, 3), (74, .iload 8, 2), (76, .bipush 6, 2), (78, .iadd, 1), (79, .iload 7, 2), (81, .ifCond .eq 7, 3), (84, .iconst 1, 1), (85, .goto 4, 3), (88, .iconst 0, 1), (89, .iastore, 1), (90, .aload_n 0, 1), (91, .dup, 1), (92, .getfield 215, 3), (95, .iconst 1, 1), (96, .iadd, 1), (97, .putfield 215, 3), (100, .aload_n 0, 1), (101, .getfield 215, 3), (104, .iconst 1, 1), (105, .isub, 1), (106, .ireturn, 1)]
set_option maxRecDepth 100000 in
theorem dX11_addEvent_63_g : dX11_addEvent_63_l.all (fun x => decide (decode cX11_addEvent x.1 = .ok x.2)) = true := by decide +kernel
set_option maxRecDepth 100000 in
theorem ggX11_isHand_X11_in : GoodIn wsX11_isHand wsX11_in := goodIn_sub (sub_c (nq_m (n := 5) rfl) sub_n) gw_X11_in
set_option maxRecDepth 100000 in
theorem gX11_isHand_X11_in : GoodIn wsX11_isHand (va_wsS RX11 126 yX11_in wsX11_in) := goodIn_app (goodIn_sub (sub_c (nq_m (n := 2) rfl) (sub_c (nq_m (n := 3) rfl) (sub_c (nq_m (n := 4) rfl) sub_n))) (by decide +kernel)) ggX11_isHand_X11_in
noncomputable def dX11_isHand_0_l : List (Nat × Instr × Nat) := [(0, .iload_n 0, 1), (1, .i2l, 1), (2, .lconst 0, 1), (3, .ldc2_w 234, 3), (6, .invokestatic 126, 3), (9, .ireturn, 1)]
set_option maxRecDepth 100000 in
theorem dX11_isHand_0_g : dX11_isHand_0_l.all (fun x => decide (decode cX11_isHand x.1 = .ok x.2)) = true := by decide +kernel
noncomputable def dX11_isBrassOut_0_l : List (Nat × Instr × Nat) := [(0, .iconst 0, 1), (1, .istore_n 2, 1), (2, .iconst 0, 1), (3, .istore_n 3, 1), (4, .iload_n 3, 1), (5, .aload_n 0, 1), (6, .getfield 227, 3), (9, .if_icmp .ge 29, 3), (12, .iload_n 2, 1), (13, .ifCond .ne 13, 3), (16, .aload_n 0, 1), (17, .getfield 56, 3), (20, .iload_n 3, 1), (21, .iaload, 1), (22, .iload_n 1, 1), (23, .if_icmp .ne 7, 3), (26, .iconst 1, 1), (27, .goto 4, 3), (30, .iconst 0, 1), (31, .istore_n 2, 1), (32, .iinc 3 1, 3), (35, .goto (-31), 3), (38, .iload_n 2, 1), (39, .ireturn, 1)]
set_option maxRecDepth 100000 in
theorem dX11_isBrassOut_0_g : dX11_isBrassOut_0_l.all (fun x => decide (decode cX11_isBrassOut x.1 = .ok x.2)) = true := by decide +kernel
set_option maxRecDepth 100000 in
theorem gw_X11_isHand : wsX11_isHand.all goodWord = true := by decide +kernel
set_option maxRecDepth 100000 in
theorem ggX11_hang_X11_isHand : GoodIn wsX11_hang wsX11_isHand := goodIn_sub (sub_g [(11, [0, 0, 0]), (10, [4])] rfl) gw_X11_isHand
set_option maxRecDepth 100000 in
theorem gX11_hang_X11_isHand : GoodIn wsX11_hang (va_wsS RX11 284 yX11_isHand wsX11_isHand) := goodIn_app (goodIn_sub (sub_c (nq_m (n := 8) rfl) (sub_c (nq_m (n := 9) rfl) (sub_c (nq_m (n := 10) rfl) sub_n))) (by decide +kernel)) ggX11_hang_X11_isHand
set_option maxRecDepth 100000 in
theorem ggX11_hang_X11_isGuest : GoodIn wsX11_hang wsX11_isGuest := goodIn_sub (sub_g [(19, [0]), (13, [0]), (10, [4, 25, 0, 0, 0, 0, 0, 0, 0, 0, 0, 0, 0, 0, 0, 0, 0, 0, 0, 0, 0, 0, 0, 0, 0, 0, 0, 0, 0, 0, 0, 0, 0, 0, 0, 0, 0, 0, 0, 0, 0, 0, 0, 0, 0, 0, 0, 0, 0, 0, 0, 0, 0, 0, 0, 0, 0, 0, 0])] rfl) gw_X11_isGuest
set_option maxRecDepth 100000 in
theorem gX11_hang_X11_isGuest : GoodIn wsX11_hang (wsV RX11 255 RX11 yX11_isGuest wsX11_isGuest) := goodIn_app (goodIn_sub (sub_c (nq_m (n := 16) rfl) (sub_c (nq_m (n := 17) rfl) (sub_c (nq_m (n := 18) rfl) (sub_c (nq_m (n := 10) rfl) sub_n)))) (by decide +kernel)) ggX11_hang_X11_isGuest
set_option maxRecDepth 100000 in
theorem ggX11_hang_X11_isPeg : GoodIn wsX11_hang wsX11_isPeg := goodIn_sub (sub_g [(24, [0]), (13, [0]), (10, [4, 25, 0, 0, 0, 0, 0, 0, 0, 0, 0, 0, 0, 0, 0, 0, 0, 0, 0, 0, 0, 0, 0, 0, 0, 0, 0, 0, 0, 0, 0, 0, 0, 0, 0, 0, 0, 0, 0, 0, 0, 0, 0, 0, 0, 0, 0, 0, 0, 0, 0, 0, 0, 0, 0, 0, 0, 0, 0])] rfl) gw_X11_isPeg
set_option maxRecDepth 100000 in
theorem gX11_hang_X11_isPeg : GoodIn wsX11_hang (wsV RX11 230 RX11 yX11_isPeg wsX11_isPeg) := goodIn_app (goodIn_sub (sub_c (nq_m (n := 21) rfl) (sub_c (nq_m (n := 22) rfl) (sub_c (nq_m (n := 23) rfl) (sub_c (nq_m (n := 10) rfl) sub_n)))) (by decide +kernel)) ggX11_hang_X11_isPeg
set_option maxRecDepth 100000 in
theorem ggX11_hang_X11_in : GoodIn wsX11_hang wsX11_in := goodIn_sub (sub_c (nq_m (n := 15) rfl) sub_n) gw_X11_in
set_option maxRecDepth 100000 in
theorem gX11_hang_X11_in : GoodIn wsX11_hang (va_wsS RX11 126 yX11_in wsX11_in) := goodIn_app (goodIn_sub (sub_c (nq_m (n := 13) rfl) (sub_c (nq_m (n := 14) rfl) (sub_c (nq_m (n := 10) rfl) sub_n))) (by decide +kernel)) ggX11_hang_X11_in
set_option maxRecDepth 100000 in
theorem gw_X11_hasClaim : wsX11_hasClaim.all goodWord = true := by decide +kernel
set_option maxRecDepth 100000 in
theorem ggX11_hang_X11_hasClaim : GoodIn wsX11_hang wsX11_hasClaim := goodIn_sub (sub_g [(29, [0, 0, 9, 0, 0, 0, 0, 0, 0, 0, 0, 0, 0, 0, 0, 0, 0, 0, 0, 0, 0, 0, 0, 0, 0, 0, 0, 0, 0, 0, 0, 0, 0, 0, 0, 0, 0, 0, 0, 0, 0, 0, 0, 0, 0, 0, 0, 0, 0, 0, 0, 0, 0, 0, 0, 0, 0, 0, 0, 0])] rfl) gw_X11_hasClaim
set_option maxRecDepth 100000 in
theorem gX11_hang_X11_hasClaim : GoodIn wsX11_hang (wsV RX11 289 RX11 yX11_hasClaim wsX11_hasClaim) := goodIn_app (goodIn_sub (sub_c (nq_m (n := 26) rfl) (sub_c (nq_m (n := 27) rfl) (sub_c (nq_m (n := 28) rfl) (sub_c (nq_m (n := 10) rfl) sub_n)))) (by decide +kernel)) ggX11_hang_X11_hasClaim
set_option maxRecDepth 100000 in
theorem gw_X11_isBrassOut : wsX11_isBrassOut.all goodWord = true := by decide +kernel
set_option maxRecDepth 100000 in
theorem ggX11_hang_X11_isBrassOut : GoodIn wsX11_hang wsX11_isBrassOut := goodIn_sub (sub_g [(35, []), (20, []), (7, [33, 0, 0, 0, 0, 0, 0, 0, 0, 0, 0, 0, 0, 0, 0, 0, 0, 0, 0, 0, 0, 0, 0, 0, 0, 0, 0, 0, 0, 0, 0, 0, 0, 0, 0, 0, 0, 0, 0, 0, 0, 0, 0, 0, 0, 0, 0, 0, 0, 0, 0, 0, 0, 0, 0, 0, 0, 0])] rfl) gw_X11_isBrassOut
set_option maxRecDepth 100000 in
theorem gX11_hang_X11_isBrassOut : GoodIn wsX11_hang (wsV RX11 292 RX11 yX11_isBrassOut wsX11_isBrassOut) := goodIn_app (goodIn_sub (sub_c (nq_m (n := 32) rfl) (sub_c (nq_m (n := 33) rfl) (sub_c (nq_m (n := 34) rfl) (sub_c (nq_m (n := 10) rfl) sub_n)))) (by decide +kernel)) ggX11_hang_X11_isBrassOut
set_option maxRecDepth 100000 in
theorem gw_X11_addEvent : wsX11_addEvent.all goodWord = true := by decide +kernel
set_option maxRecDepth 100000 in
theorem ggX11_hang_X11_addEvent : GoodIn wsX11_hang wsX11_addEvent := goodIn_sub (sub_g [(39, []), (6, [33, 0, 0, 0, 0, 0, 0, 0, 0, 0, 0, 0, 0, 0, 0, 0, 0, 0, 0, 0, 0, 0, 0, 0, 0, 0, 0, 0, 0, 0, 0, 0, 0, 0, 0, 0, 0, 0, 0, 0, 0, 0, 0, 0, 0, 0, 0, 0, 0, 0, 0, 0, 0, 0, 0, 0, 0, 0, 0])] rfl) gw_X11_addEvent
set_option maxRecDepth 100000 in
theorem gX11_hang_X11_addEvent : GoodIn wsX11_hang (wsV RX11 295 RX11 yX11_addEvent wsX11_addEvent) := goodIn_app (goodIn_sub (sub_c (nq_m (n := 36) rfl) (sub_c (nq_m (n := 37) rfl) (sub_c (nq_m (n := 38) rfl) (sub_c (nq_m (n := 10) rfl) sub_n)))) (by decide +kernel)) ggX11_hang_X11_addEvent
noncomputable def dX11_hang_0_l : List (Nat × Instr × Nat) := [(0, .iload_n 1, 1), (1, .invokestatic 284, 3), (4, .ifCond .eq 19, 3), (7, .aload_n 0, 1), (8, .iload_n 2, 1), (9, .invokevirtual 255, 3), (12, .ifCond .eq 11, 3), (15, .aload_n 0, 1), (16, .iload_n 3, 1), (17, .invokevirtual 230, 3), (20, .ifCond .ne 7, 3), (23, .sipush (-1001), 3), (26, .ireturn, 1), (27, .iload 4, 2), (29, .i2l, 1), (30, .lconst 0, 1), (31, .ldc2_w 287, 3), (34, .invokestatic 126, 3), (37, .ifCond .ne 7, 3), (40, .sipush (-1002), 3), (43, .ireturn, 1), (44, .aload_n 0, 1), (45, .getfield 62, 3), (48, .iload_n 2, 1), (49, .iaload, 1), (50, .ifCond .ge 44, 3), (53, .aload_n 0, 1), (54, .iload_n 2, 1), (55, .invokevirtual 289, 3), (58, .ifCond .ne 36, 3), (61, .aload_n 0, 1), (62, .getfield 7, 3), (65, .iload_n 3, 1), (66, .iaload, 1), (67, .aload_n 0, 1), (68, .getfield 47, 3), (71, .iload_n 2, 1), (72, .iaload, 1), (73, .if_icmp .ne 21, 3), (76, .aload_n 0, 1)]
set_option maxRecDepth 100000 in
theorem dX11_hang_0_g : dX11_hang_0_l.all (fun x => decide (decode cX11_hang x.1 = .ok x.2)) = true := by decide +kernel
noncomputable def dX11_hang_77_l : List (Nat × Instr × Nat) := [(77, .getfield 41, 3), (80, .iload_n 3, 1), (81, .iaload, 1), (82, .ifCond .ge 12, 3), (85, .aload_n 0, 1), (86, .iload 4, 2), (88, .invokevirtual 292, 3), (91, .ifCond .eq 7, 3), (94, .sipush (-1003), 3), (97, .ireturn, 1), (98, .aload_n 0, 1), (99, .getfield 215, 3), (102, .bipush 60, 2), (104, .if_icmp .ne 7, 3), (107, .sipush (-1004), 3), (110, .ireturn, 1), (111, .aload_n 0, 1), (112, .getfield 41, 3), (115, .iload_n 3, 1), (116, .iload_n 2, 1), (117, .iastore, 1), (118, .aload_n 0, 1), (119, .getfield 56, 3), (122, .iload_n 2, 1), (123, .iload 4, 2), (125, .iastore, 1), (126, .aload_n 0, 1), (127, .getfield 62, 3), (130, .iload_n 2, 1), (131, .aload_n 0, 1), (132, .getfield 215, 3), (135, .iastore, 1), (136, .aload_n 0, 1), (137, .iconst 0, 1), (138, .iload_n 1, 1), (139, .iload_n 2, 1), (140, .iload_n 3, 1), (141, .iload 4, 2), (143, .iload_n 2, 1), (144, .iload 4, 2)]
set_option maxRecDepth 100000 in
theorem dX11_hang_77_g : dX11_hang_77_l.all (fun x => decide (decode cX11_hang x.1 = .ok x.2)) = true := by decide +kernel
noncomputable def dX11_hang_146_l : List (Nat × Instr × Nat) := [(146, .iload_n 3, 1), (147, .if_icmp .eq 7, 3), (150, .iconst 1, 1), (151, .goto 4, 3), (154, .iconst 0, 1), (155, .invokevirtual 295, 3), (158, .ireturn, 1)]
set_option maxRecDepth 100000 in
theorem dX11_hang_146_g : dX11_hang_146_l.all (fun x => decide (decode cX11_hang x.1 = .ok x.2)) = true := by decide +kernel
set_option maxRecDepth 100000 in
theorem ggX11_give_X11_isHand : GoodIn wsX11_give wsX11_isHand := goodIn_sub (sub_g [(8, [0, 0, 0]), (7, [4])] rfl) gw_X11_isHand
set_option maxRecDepth 100000 in
theorem gX11_give_X11_isHand : GoodIn wsX11_give (va_wsS RX11 284 yX11_isHand wsX11_isHand) := goodIn_app (goodIn_sub (sub_c (nq_m (n := 5) rfl) (sub_c (nq_m (n := 6) rfl) (sub_c (nq_m (n := 7) rfl) sub_n))) (by decide +kernel)) ggX11_give_X11_isHand
set_option maxRecDepth 100000 in
theorem ggX11_give_X11_isGuest : GoodIn wsX11_give wsX11_isGuest := goodIn_sub (sub_g [(16, [0]), (10, [0]), (7, [4, 15, 0, 0, 0, 0, 0, 0, 0, 0, 0, 0, 0, 0, 0, 0, 0, 0, 0, 0, 0, 0, 0, 0, 0, 0, 0, 0, 0, 0, 0, 0, 0, 0, 0, 0, 0, 0, 0, 0, 0, 0, 0, 0, 0, 0, 0, 0, 0, 0, 0, 0, 0, 0, 0, 0, 0, 0, 0])] rfl) gw_X11_isGuest
set_option maxRecDepth 100000 in
theorem gX11_give_X11_isGuest : GoodIn wsX11_give (wsV RX11 255 RX11 yX11_isGuest wsX11_isGuest) := goodIn_app (goodIn_sub (sub_c (nq_m (n := 13) rfl) (sub_c (nq_m (n := 14) rfl) (sub_c (nq_m (n := 15) rfl) (sub_c (nq_m (n := 7) rfl) sub_n)))) (by decide +kernel)) ggX11_give_X11_isGuest
set_option maxRecDepth 100000 in
theorem ggX11_give_X11_isPeg : GoodIn wsX11_give wsX11_isPeg := goodIn_sub (sub_g [(21, [0]), (10, [0]), (7, [4, 15, 0, 0, 0, 0, 0, 0, 0, 0, 0, 0, 0, 0, 0, 0, 0, 0, 0, 0, 0, 0, 0, 0, 0, 0, 0, 0, 0, 0, 0, 0, 0, 0, 0, 0, 0, 0, 0, 0, 0, 0, 0, 0, 0, 0, 0, 0, 0, 0, 0, 0, 0, 0, 0, 0, 0, 0, 0])] rfl) gw_X11_isPeg
set_option maxRecDepth 100000 in
theorem gX11_give_X11_isPeg : GoodIn wsX11_give (wsV RX11 230 RX11 yX11_isPeg wsX11_isPeg) := goodIn_app (goodIn_sub (sub_c (nq_m (n := 18) rfl) (sub_c (nq_m (n := 19) rfl) (sub_c (nq_m (n := 20) rfl) (sub_c (nq_m (n := 7) rfl) sub_n)))) (by decide +kernel)) ggX11_give_X11_isPeg
set_option maxRecDepth 100000 in
theorem ggX11_give_X11_addEvent : GoodIn wsX11_give wsX11_addEvent := goodIn_sub (sub_g [(26, []), (4, [22, 0, 0, 0, 0, 0, 0, 0, 0, 0, 0, 0, 0, 0, 0, 0, 0, 0, 0, 0, 0, 0, 0, 0, 0, 0, 0, 0, 0, 0, 0, 0, 0, 0, 0, 0, 0, 0, 0, 0, 0, 0, 0, 0, 0, 0, 0, 0, 0, 0, 0, 0, 0, 0, 0, 0, 0, 0, 0])] rfl) gw_X11_addEvent
set_option maxRecDepth 100000 in
theorem gX11_give_X11_addEvent : GoodIn wsX11_give (wsV RX11 295 RX11 yX11_addEvent wsX11_addEvent) := goodIn_app (goodIn_sub (sub_c (nq_m (n := 23) rfl) (sub_c (nq_m (n := 24) rfl) (sub_c (nq_m (n := 25) rfl) (sub_c (nq_m (n := 7) rfl) sub_n)))) (by decide +kernel)) ggX11_give_X11_addEvent
noncomputable def dX11_give_0_l : List (Nat × Instr × Nat) := [(0, .iload_n 1, 1), (1, .invokestatic 284, 3), (4, .ifCond .eq 19, 3), (7, .aload_n 0, 1), (8, .iload_n 2, 1), (9, .invokevirtual 255, 3), (12, .ifCond .eq 11, 3), (15, .aload_n 0, 1), (16, .iload_n 3, 1), (17, .invokevirtual 230, 3), (20, .ifCond .ne 7, 3), (23, .sipush (-1001), 3), (26, .ireturn, 1), (27, .aload_n 0, 1), (28, .getfield 56, 3), (31, .iload_n 2, 1), (32, .iaload, 1), (33, .ifCond .lt 21, 3), (36, .aload_n 0, 1), (37, .getfield 59, 3), (40, .iload_n 2, 1), (41, .iaload, 1), (42, .ifCond .ge 12, 3), (45, .aload_n 0, 1), (46, .getfield 41, 3), (49, .iload_n 3, 1), (50, .iaload, 1), (51, .ifCond .ge 7, 3), (54, .sipush (-1003), 3), (57, .ireturn, 1), (58, .aload_n 0, 1), (59, .getfield 215, 3), (62, .bipush 60, 2), (64, .if_icmp .ne 7, 3), (67, .sipush (-1004), 3), (70, .ireturn, 1), (71, .aload_n 0, 1), (72, .getfield 56, 3), (75, .iload_n 2, 1), (76, .iaload, 1)]
set_option maxRecDepth 100000 in
theorem dX11_give_0_g : dX11_give_0_l.all (fun x => decide (decode cX11_give x.1 = .ok x.2)) = true := by decide +kernel
noncomputable def dX11_give_77_l : List (Nat × Instr × Nat) := [(77, .istore 4, 2), (79, .aload_n 0, 1), (80, .getfield 41, 3), (83, .iload_n 3, 1), (84, .iaload, 1), (85, .istore 5, 2), (87, .aload_n 0, 1), (88, .getfield 59, 3), (91, .iload_n 2, 1), (92, .iload 5, 2), (94, .iastore, 1), (95, .aload_n 0, 1), (96, .getfield 41, 3), (99, .iload_n 3, 1), (100, .iconst (-1), 1), (101, .iastore, 1), (102, .aload_n 0, 1), (103, .getfield 56, 3), (106, .iload_n 2, 1), (107, .iconst (-1), 1), (108, .iastore, 1), (109, .aload_n 0, 1), (110, .iconst 1, 1), (111, .iload_n 1, 1), (112, .iload_n 2, 1), (113, .iload_n 3, 1), (114, .iload 4, 2), (116, .iload 5, 2), (118, .iload_n 3, 1), (119, .iload 4, 2), (121, .if_icmp .eq 7, 3), (124, .iconst 1, 1), (125, .goto 4, 3), (128, .iconst 0, 1), (129, .invokevirtual 295, 3), (132, .ireturn, 1)]
set_option maxRecDepth 100000 in
theorem dX11_give_77_g : dX11_give_77_l.all (fun x => decide (decode cX11_give x.1 = .ok x.2)) = true := by decide +kernel
set_option maxRecDepth 100000 in
theorem ggX11_lose_X11_isGuest : GoodIn wsX11_lose wsX11_isGuest := goodIn_sub (sub_g [(7, [0, 0, 0]), (6, [4, 5, 0, 0, 0, 0, 0, 0, 0, 0, 0, 0, 0, 0, 0, 0, 0, 0, 0, 0, 0, 0, 0, 0, 0, 0, 0, 0, 0, 0, 0, 0, 0, 0, 0, 0, 0, 0, 0, 0, 0, 0, 0, 0, 0, 0, 0, 0, 0, 0, 0, 0, 0, 0, 0, 0, 0, 0, 0])] rfl) gw_X11_isGuest
set_option maxRecDepth 100000 in
theorem gX11_lose_X11_isGuest : GoodIn wsX11_lose (wsV RX11 255 RX11 yX11_isGuest wsX11_isGuest) := goodIn_app (goodIn_sub (sub_c (nq_m (n := 3) rfl) (sub_c (nq_m (n := 4) rfl) (sub_c (nq_m (n := 5) rfl) (sub_c (nq_m (n := 6) rfl) sub_n)))) (by decide +kernel)) ggX11_lose_X11_isGuest
set_option maxRecDepth 100000 in
theorem ggX11_lose_X11_addEvent : GoodIn wsX11_lose wsX11_addEvent := goodIn_sub (sub_g [(15, []), (2, [13, 0, 0, 0, 0, 0, 0, 0, 0, 0, 0, 0, 0, 0, 0, 0, 0, 0, 0, 0, 0, 0, 0, 0, 0, 0, 0, 0, 0, 0, 0, 0, 0, 0, 0, 0, 0, 0, 0, 0, 0, 0, 0, 0, 0, 0, 0, 0, 0, 0, 0, 0, 0, 0, 0, 0, 0, 0, 0])] rfl) gw_X11_addEvent
set_option maxRecDepth 100000 in
theorem gX11_lose_X11_addEvent : GoodIn wsX11_lose (wsV RX11 295 RX11 yX11_addEvent wsX11_addEvent) := goodIn_app (goodIn_sub (sub_c (nq_m (n := 12) rfl) (sub_c (nq_m (n := 13) rfl) (sub_c (nq_m (n := 14) rfl) (sub_c (nq_m (n := 6) rfl) sub_n)))) (by decide +kernel)) ggX11_lose_X11_addEvent
noncomputable def dX11_lose_0_l : List (Nat × Instr × Nat) := [(0, .aload_n 0, 1), (1, .iload_n 1, 1), (2, .invokevirtual 255, 3), (5, .ifCond .ne 7, 3), (8, .sipush (-1001), 3), (11, .ireturn, 1), (12, .aload_n 0, 1), (13, .getfield 56, 3), (16, .iload_n 1, 1), (17, .iaload, 1), (18, .ifCond .ge 7, 3), (21, .sipush (-1003), 3), (24, .ireturn, 1), (25, .aload_n 0, 1), (26, .getfield 215, 3), (29, .bipush 60, 2), (31, .if_icmp .ne 7, 3), (34, .sipush (-1004), 3), (37, .ireturn, 1), (38, .aload_n 0, 1), (39, .getfield 56, 3), (42, .iload_n 1, 1), (43, .iaload, 1), (44, .istore_n 2, 1), (45, .aload_n 0, 1), (46, .getfield 56, 3), (49, .iload_n 1, 1), (50, .iconst (-1), 1), (51, .iastore, 1), (52, .aload_n 0, 1), (53, .iconst 2, 1), (54, .iconst (-1), 1), (55, .iload_n 1, 1), (56, .iconst (-1), 1), (57, .iload_n 2, 1), (58, .iconst (-1), 1), (59, .iconst 0, 1), (60, .invokevirtual 295, 3), (63, .ireturn, 1)]
set_option maxRecDepth 100000 in
theorem dX11_lose_0_g : dX11_lose_0_l.all (fun x => decide (decode cX11_lose x.1 = .ok x.2)) = true := by decide +kernel
set_option maxRecDepth 100000 in
theorem ggX11_event_X11_in : GoodIn wsX11_event wsX11_in := goodIn_sub (sub_c (nq_m (n := 7) rfl) sub_n) gw_X11_in
set_option maxRecDepth 100000 in
theorem gX11_event_X11_in : GoodIn wsX11_event (va_wsS RX11 126 yX11_in wsX11_in) := goodIn_app (goodIn_sub (sub_c (nq_m (n := 4) rfl) (sub_c (nq_m (n := 5) rfl) (sub_c (nq_m (n := 6) rfl) sub_n))) (by decide +kernel)) ggX11_event_X11_in
noncomputable def dX11_event_0_l : List (Nat × Instr × Nat) := [(0, .iload_n 1, 1), (1, .i2l, 1), (2, .lconst 0, 1), (3, .aload_n 0, 1), (4, .getfield 215, 3), (7, .iconst 1, 1), (8, .isub, 1), (9, .i2l, 1), (10, .invokestatic 126, 3), (13, .ifCond .ne 7, 3), (16, .sipush (-1001), 3), (19, .ireturn, 1), (20, .iload_n 2, 1), (21, .i2l, 1), (22, .lconst 0, 1), (23, .ldc2_w 299, 3), (26, .invokestatic 126, 3), (29, .ifCond .eq 17, 3), (32, .aload_n 0, 1), (33, .getfield 84, 3), (36, .bipush 7, 2), (38, .iload_n 1, 1), (39, .imul, 1), (40, .iload_n 2, 1), (41, .iadd, 1), (42, .iaload, 1), (43, .goto 6, 3), (46, .sipush (-1002), 3), (49, .ireturn, 1)]
set_option maxRecDepth 100000 in
theorem dX11_event_0_g : dX11_event_0_l.all (fun x => decide (decode cX11_event x.1 = .ok x.2)) = true := by decide +kernel
noncomputable def dX11_isAstray_0_l : List (Nat × Instr × Nat) := [(0, .aload_n 0, 1), (1, .getfield 59, 3), (4, .iload_n 1, 1), (5, .iaload, 1), (6, .ifCond .lt 17, 3), (9, .aload_n 0, 1), (10, .getfield 59, 3), (13, .iload_n 1, 1), (14, .iaload, 1), (15, .iload_n 1, 1), (16, .if_icmp .eq 7, 3), (19, .iconst 1, 1), (20, .goto 4, 3), (23, .iconst 0, 1), (24, .ireturn, 1)]
set_option maxRecDepth 100000 in
theorem dX11_isAstray_0_g : dX11_isAstray_0_l.all (fun x => decide (decode cX11_isAstray x.1 = .ok x.2)) = true := by decide +kernel
set_option maxRecDepth 100000 in
theorem gw_X11_isAstray : wsX11_isAstray.all goodWord = true := by decide +kernel
set_option maxRecDepth 100000 in
theorem ggX11_astray_X11_isAstray : GoodIn wsX11_astray wsX11_isAstray := goodIn_sub (sub_g [(6, [0, 0, 0, 0, 0, 0, 0, 0, 0, 0, 0, 0, 0, 0, 0, 0, 0, 0, 0, 0, 0, 0, 0, 0, 0, 0, 0, 0, 0, 0, 0, 0, 0, 0, 0, 0, 0, 0, 0, 0, 0, 0, 0, 0, 0, 0, 0, 0, 0, 0, 0, 0, 0, 0, 0, 0, 0, 0, 0])] rfl) gw_X11_isAstray
set_option maxRecDepth 100000 in
theorem gX11_astray_X11_isAstray : GoodIn wsX11_astray (wsV RX11 301 RX11 yX11_isAstray wsX11_isAstray) := goodIn_app (goodIn_sub (sub_c (nq_m (n := 2) rfl) (sub_c (nq_m (n := 3) rfl) (sub_c (nq_m (n := 4) rfl) (sub_c (nq_m (n := 5) rfl) sub_n)))) (by decide +kernel)) ggX11_astray_X11_isAstray
noncomputable def dX11_astray_0_l : List (Nat × Instr × Nat) := [(0, .iconst 0, 1), (1, .istore_n 1, 1), (2, .iconst 0, 1), (3, .istore_n 2, 1), (4, .iload_n 2, 1), (5, .aload_n 0, 1), (6, .getfield 227, 3), (9, .if_icmp .ge 27, 3), (12, .iload_n 1, 1), (13, .aload_n 0, 1), (14, .iload_n 2, 1), (15, .invokevirtual 301, 3), (18, .ifCond .eq 9, 3), (21, .iconst 1, 1), (22, .iload_n 2, 1), (23, .ishl, 1), (24, .goto 4, 3), (27, .iconst 0, 1), (28, .ior, 1), (29, .istore_n 1, 1), (30, .iinc 2 1, 3), (33, .goto (-29), 3), (36, .iload_n 1, 1), (37, .ireturn, 1)]
set_option maxRecDepth 100000 in
theorem dX11_astray_0_g : dX11_astray_0_l.all (fun x => decide (decode cX11_astray x.1 = .ok x.2)) = true := by decide +kernel
noncomputable def dX11_findChain_0_l : List (Nat × Instr × Nat) := [(0, .aload_n 0, 1), (1, .getfield 87, 3), (4, .iconst 0, 1), (5, .iload_n 1, 1), (6, .iastore, 1), (7, .aload_n 0, 1), (8, .iconst 1, 1), (9, .putfield 304, 3), (12, .aload_n 0, 1), (13, .getfield 59, 3), (16, .iload_n 1, 1), (17, .iaload, 1), (18, .istore_n 2, 1), (19, .iload_n 2, 1), (20, .ifCond .lt 38, 3), (23, .iload_n 2, 1), (24, .iload_n 1, 1), (25, .if_icmp .eq 33, 3), (28, .aload_n 0, 1), (29, .getfield 87, 3), (32, .aload_n 0, 1), (33, .getfield 304, 3), (36, .iload_n 2, 1), (37, .iastore, 1), (38, .aload_n 0, 1), (39, .dup, 1), (40, .getfield 304, 3), (43, .iconst 1, 1), (44, .iadd, 1), (45, .putfield 304, 3), (48, .aload_n 0, 1), (49, .getfield 59, 3), (52, .iload_n 2, 1), (53, .iaload, 1), (54, .istore_n 2, 1), (55, .goto (-36), 3), (58, .aload_n 0, 1), (59, .iload_n 2, 1), (60, .iload_n 1, 1), (61, .if_icmp .ne 7, 3)]
set_option maxRecDepth 100000 in
theorem dX11_findChain_0_g : dX11_findChain_0_l.all (fun x => decide (decode cX11_findChain x.1 = .ok x.2)) = true := by decide +kernel
noncomputable def dX11_findChain_64_l : List (Nat × Instr × Nat) := [(64, .iconst 1, 1), (65, .goto 4, 3), (68, .iconst 0, 1), (69, .putfield 307, 3), (72, .return_, 1)]
set_option maxRecDepth 100000 in
theorem dX11_findChain_64_g : dX11_findChain_64_l.all (fun x => decide (decode cX11_findChain x.1 = .ok x.2)) = true := by decide +kernel
set_option maxRecDepth 100000 in
theorem ggX11_chain_X11_isGuest : GoodIn wsX11_chain wsX11_isGuest := goodIn_sub (sub_g [(7, [0, 0, 0]), (6, [4, 10, 0, 0, 0, 0, 0, 0, 0, 0, 0, 0, 0, 0, 0, 0, 0, 0, 0, 0, 0, 0, 0, 0, 0, 0, 0, 0, 0, 0, 0, 0, 0, 0, 0, 0, 0, 0, 0, 0, 0, 0, 0, 0, 0, 0, 0, 0, 0, 0, 0, 0, 0, 0, 0, 0, 0, 0, 0])] rfl) gw_X11_isGuest
set_option maxRecDepth 100000 in
theorem gX11_chain_X11_isGuest : GoodIn wsX11_chain (wsV RX11 255 RX11 yX11_isGuest wsX11_isGuest) := goodIn_app (goodIn_sub (sub_c (nq_m (n := 3) rfl) (sub_c (nq_m (n := 4) rfl) (sub_c (nq_m (n := 5) rfl) (sub_c (nq_m (n := 6) rfl) sub_n)))) (by decide +kernel)) ggX11_chain_X11_isGuest
set_option maxRecDepth 100000 in
theorem ggX11_chain_X11_isAstray : GoodIn wsX11_chain wsX11_isAstray := goodIn_sub (sub_g [(15, [0, 5, 0, 0, 0, 0, 0, 0, 0, 0, 0, 0, 0, 0, 0, 0, 0, 0, 0, 0, 0, 0, 0, 0, 0, 0, 0, 0, 0, 0, 0, 0, 0, 0, 0, 0, 0, 0, 0, 0, 0, 0, 0, 0, 0, 0, 0, 0, 0, 0, 0, 0, 0, 0, 0, 0, 0, 0, 0])] rfl) gw_X11_isAstray
set_option maxRecDepth 100000 in
theorem gX11_chain_X11_isAstray : GoodIn wsX11_chain (wsV RX11 301 RX11 yX11_isAstray wsX11_isAstray) := goodIn_app (goodIn_sub (sub_c (nq_m (n := 12) rfl) (sub_c (nq_m (n := 13) rfl) (sub_c (nq_m (n := 14) rfl) (sub_c (nq_m (n := 6) rfl) sub_n)))) (by decide +kernel)) ggX11_chain_X11_isAstray
set_option maxRecDepth 100000 in
theorem gw_X11_findChain : wsX11_findChain.all goodWord = true := by decide +kernel
set_option maxRecDepth 100000 in
theorem ggX11_chain_X11_findChain : GoodIn wsX11_chain wsX11_findChain := goodIn_sub (sub_g [(20, []), (2, []), (1, [14, 4, 0, 0, 0, 0, 0, 0, 0, 0, 0, 0, 0, 0, 0, 0, 0, 0, 0, 0, 0, 0, 0, 0, 0, 0, 0, 0, 0, 0, 0, 0, 0, 0, 0, 0, 0, 0, 0, 0, 0, 0, 0, 0, 0, 0, 0, 0, 0, 0, 0, 0, 0, 0, 0, 0, 0, 0, 0, 0])] rfl) gw_X11_findChain
set_option maxRecDepth 100000 in
theorem gX11_chain_X11_findChain : GoodIn wsX11_chain (wsV RX11 311 RX11 yX11_findChain wsX11_findChain) := goodIn_app (goodIn_sub (sub_c (nq_m (n := 17) rfl) (sub_c (nq_m (n := 18) rfl) (sub_c (nq_m (n := 19) rfl) (sub_c (nq_m (n := 6) rfl) sub_n)))) (by decide +kernel)) ggX11_chain_X11_findChain
set_option maxRecDepth 100000 in
theorem ggX11_chain_X11_in : GoodIn wsX11_chain wsX11_in := goodIn_sub (sub_c (nq_m (n := 11) rfl) sub_n) gw_X11_in
set_option maxRecDepth 100000 in
theorem gX11_chain_X11_in : GoodIn wsX11_chain (va_wsS RX11 126 yX11_in wsX11_in) := goodIn_app (goodIn_sub (sub_c (nq_m (n := 9) rfl) (sub_c (nq_m (n := 10) rfl) (sub_c (nq_m (n := 6) rfl) sub_n))) (by decide +kernel)) ggX11_chain_X11_in
noncomputable def dX11_chain_0_l : List (Nat × Instr × Nat) := [(0, .aload_n 0, 1), (1, .iload_n 1, 1), (2, .invokevirtual 255, 3), (5, .ifCond .ne 7, 3), (8, .sipush (-1001), 3), (11, .ireturn, 1), (12, .aload_n 0, 1), (13, .iload_n 1, 1), (14, .invokevirtual 301, 3), (17, .ifCond .ne 7, 3), (20, .sipush (-1003), 3), (23, .ireturn, 1), (24, .aload_n 0, 1), (25, .iload_n 1, 1), (26, .invokevirtual 311, 3), (29, .iload_n 2, 1), (30, .iconst (-1), 1), (31, .if_icmp .ne 10, 3), (34, .aload_n 0, 1), (35, .getfield 304, 3), (38, .goto 29, 3), (41, .iload_n 2, 1), (42, .i2l, 1), (43, .lconst 0, 1), (44, .aload_n 0, 1), (45, .getfield 304, 3), (48, .iconst 1, 1), (49, .isub, 1), (50, .i2l, 1), (51, .invokestatic 126, 3), (54, .ifCond .eq 12, 3), (57, .aload_n 0, 1), (58, .getfield 87, 3), (61, .iload_n 2, 1), (62, .iaload, 1), (63, .goto 4, 3), (66, .iconst (-1), 1), (67, .ireturn, 1)]
set_option maxRecDepth 100000 in
theorem dX11_chain_0_g : dX11_chain_0_l.all (fun x => decide (decode cX11_chain x.1 = .ok x.2)) = true := by decide +kernel
set_option maxRecDepth 100000 in
theorem ggX11_ring_X11_isGuest : GoodIn wsX11_ring wsX11_isGuest := goodIn_sub (sub_g [(6, [0, 0, 0]), (5, [4, 11, 0, 0, 0, 0, 0, 0, 0, 0, 0, 0, 0, 0, 0, 0, 0, 0, 0, 0, 0, 0, 0, 0, 0, 0, 0, 0, 0, 0, 0, 0, 0, 0, 0, 0, 0, 0, 0, 0, 0, 0, 0, 0, 0, 0, 0, 0, 0, 0, 0, 0, 0, 0, 0, 0, 0, 0, 0])] rfl) gw_X11_isGuest
set_option maxRecDepth 100000 in
theorem gX11_ring_X11_isGuest : GoodIn wsX11_ring (wsV RX11 255 RX11 yX11_isGuest wsX11_isGuest) := goodIn_app (goodIn_sub (sub_c (nq_m (n := 2) rfl) (sub_c (nq_m (n := 3) rfl) (sub_c (nq_m (n := 4) rfl) (sub_c (nq_m (n := 5) rfl) sub_n)))) (by decide +kernel)) ggX11_ring_X11_isGuest
set_option maxRecDepth 100000 in
theorem ggX11_ring_X11_isAstray : GoodIn wsX11_ring wsX11_isAstray := goodIn_sub (sub_g [(14, [0, 6, 0, 0, 0, 0, 0, 0, 0, 0, 0, 0, 0, 0, 0, 0, 0, 0, 0, 0, 0, 0, 0, 0, 0, 0, 0, 0, 0, 0, 0, 0, 0, 0, 0, 0, 0, 0, 0, 0, 0, 0, 0, 0, 0, 0, 0, 0, 0, 0, 0, 0, 0, 0, 0, 0, 0, 0, 0])] rfl) gw_X11_isAstray
set_option maxRecDepth 100000 in
theorem gX11_ring_X11_isAstray : GoodIn wsX11_ring (wsV RX11 301 RX11 yX11_isAstray wsX11_isAstray) := goodIn_app (goodIn_sub (sub_c (nq_m (n := 11) rfl) (sub_c (nq_m (n := 12) rfl) (sub_c (nq_m (n := 13) rfl) (sub_c (nq_m (n := 5) rfl) sub_n)))) (by decide +kernel)) ggX11_ring_X11_isAstray
set_option maxRecDepth 100000 in
theorem ggX11_ring_X11_findChain : GoodIn wsX11_ring wsX11_findChain := goodIn_sub (sub_g [(19, [0, 0]), (15, []), (1, [20, 0, 0, 0, 0, 0, 0, 0, 0, 0, 0, 0, 0, 0, 0, 0, 0, 0, 0, 0, 0, 0, 0, 0, 0, 0, 0, 0, 0, 0, 0, 0, 0, 0, 0, 0, 0, 0, 0, 0, 0, 0, 0, 0, 0, 0, 0, 0, 0, 0, 0, 0, 0, 0, 0, 0, 0, 0])] rfl) gw_X11_findChain
set_option maxRecDepth 100000 in
theorem gX11_ring_X11_findChain : GoodIn wsX11_ring (wsV RX11 311 RX11 yX11_findChain wsX11_findChain) := goodIn_app (goodIn_sub (sub_c (nq_m (n := 16) rfl) (sub_c (nq_m (n := 17) rfl) (sub_c (nq_m (n := 18) rfl) (sub_c (nq_m (n := 5) rfl) sub_n)))) (by decide +kernel)) ggX11_ring_X11_findChain
noncomputable def dX11_ring_0_l : List (Nat × Instr × Nat) := [(0, .aload_n 0, 1), (1, .iload_n 1, 1), (2, .invokevirtual 255, 3), (5, .ifCond .ne 7, 3), (8, .sipush (-1001), 3), (11, .ireturn, 1), (12, .aload_n 0, 1), (13, .iload_n 1, 1), (14, .invokevirtual 301, 3), (17, .ifCond .ne 7, 3), (20, .sipush (-1003), 3), (23, .ireturn, 1), (24, .aload_n 0, 1), (25, .iload_n 1, 1), (26, .invokevirtual 311, 3), (29, .aload_n 0, 1), (30, .getfield 307, 3), (33, .ifCond .eq 7, 3), (36, .iconst 1, 1), (37, .goto 4, 3), (40, .iconst 0, 1), (41, .ireturn, 1)]
set_option maxRecDepth 100000 in
theorem dX11_ring_0_g : dX11_ring_0_l.all (fun x => decide (decode cX11_ring x.1 = .ok x.2)) = true := by decide +kernel
set_option maxRecDepth 100000 in
theorem ggX11_exchanges_X11_isAstray : GoodIn wsX11_exchanges wsX11_isAstray := goodIn_sub (sub_g [(9, [0, 4, 0, 0, 0, 0, 0, 0, 0, 0, 0, 0, 0, 0, 0, 0, 0, 0, 0, 0, 0, 0, 0, 0, 0, 0, 0, 0, 0, 0, 0, 0, 0, 0, 0, 0, 0, 0, 0, 0, 0, 0, 0, 0, 0, 0, 0, 0, 0, 0, 0, 0, 0, 0, 0, 0, 0, 0, 0])] rfl) gw_X11_isAstray
set_option maxRecDepth 100000 in
theorem gX11_exchanges_X11_isAstray : GoodIn wsX11_exchanges (wsV RX11 301 RX11 yX11_isAstray wsX11_isAstray) := goodIn_app (goodIn_sub (sub_c (nq_m (n := 5) rfl) (sub_c (nq_m (n := 6) rfl) (sub_c (nq_m (n := 7) rfl) (sub_c (nq_m (n := 8) rfl) sub_n)))) (by decide +kernel)) ggX11_exchanges_X11_isAstray
set_option maxRecDepth 100000 in
theorem ggX11_exchanges_X11_findChain : GoodIn wsX11_exchanges wsX11_findChain := goodIn_sub (sub_g [(14, []), (4, []), (3, [6]), (2, [12, 0, 0, 0, 0, 0, 0, 0, 0, 0, 0, 0, 0, 0, 0, 0, 0, 0, 0, 0, 0, 0, 0, 0, 0, 0, 0, 0, 0, 0, 0, 0, 0, 0, 0, 0, 0, 0, 0, 0, 0, 0, 0, 0, 0, 0, 0, 0, 0, 0, 0, 0, 0, 0, 0, 0, 0, 0])] rfl) gw_X11_findChain
set_option maxRecDepth 100000 in
theorem gX11_exchanges_X11_findChain : GoodIn wsX11_exchanges (wsV RX11 311 RX11 yX11_findChain wsX11_findChain) := goodIn_app (goodIn_sub (sub_c (nq_m (n := 11) rfl) (sub_c (nq_m (n := 12) rfl) (sub_c (nq_m (n := 13) rfl) (sub_c (nq_m (n := 8) rfl) sub_n)))) (by decide +kernel)) ggX11_exchanges_X11_findChain
noncomputable def dX11_exchanges_0_l : List (Nat × Instr × Nat) := [(0, .iconst 0, 1), (1, .istore_n 1, 1), (2, .iconst 0, 1), (3, .istore_n 2, 1), (4, .iload_n 2, 1), (5, .aload_n 0, 1), (6, .getfield 227, 3), (9, .if_icmp .ge 78, 3), (12, .aload_n 0, 1), (13, .iload_n 2, 1), (14, .invokevirtual 301, 3), (17, .ifCond .eq 64, 3), (20, .aload_n 0, 1), (21, .iload_n 2, 1), (22, .invokevirtual 311, 3), (25, .aload_n 0, 1), (26, .getfield 307, 3), (29, .istore_n 3, 1), (30, .iconst 1, 1), (31, .istore 4, 2), (33, .iload 4, 2), (35, .aload_n 0, 1), (36, .getfield 304, 3), (39, .if_icmp .ge 30, 3), (42, .iload_n 3, 1), (43, .ifCond .eq 18, 3), (46, .aload_n 0, 1), (47, .getfield 87, 3), (50, .iload 4, 2), (52, .iaload, 1), (53, .iload_n 2, 1), (54, .if_icmp .le 7, 3), (57, .iconst 1, 1), (58, .goto 4, 3), (61, .iconst 0, 1), (62, .istore_n 3, 1), (63, .iinc 4 1, 3), (66, .goto (-33), 3), (69, .iload_n 1, 1), (70, .iload_n 3, 1)]
set_option maxRecDepth 100000 in
theorem dX11_exchanges_0_g : dX11_exchanges_0_l.all (fun x => decide (decode cX11_exchanges x.1 = .ok x.2)) = true := by decide +kernel
noncomputable def dX11_exchanges_71_l : List (Nat × Instr × Nat) := [(71, .ifCond .eq 7, 3), (74, .iconst 0, 1), (75, .goto 4, 3), (78, .iconst 1, 1), (79, .iadd, 1), (80, .istore_n 1, 1), (81, .iinc 2 1, 3), (84, .goto (-80), 3), (87, .iload_n 1, 1), (88, .ireturn, 1)]
set_option maxRecDepth 100000 in
theorem dX11_exchanges_71_g : dX11_exchanges_71_l.all (fun x => decide (decode cX11_exchanges x.1 = .ok x.2)) = true := by decide +kernel
set_option maxRecDepth 100000 in
theorem ggX11_wrong_X11_isGuest : GoodIn wsX11_wrong wsX11_isGuest := goodIn_sub (sub_g [(8, [0, 0, 0]), (7, [4, 0, 0, 0, 0, 0, 0, 0, 0, 0, 0, 0, 0, 0, 0, 0, 0, 0, 0, 0, 0, 0, 0, 0, 0, 0, 0, 0, 0, 0, 0, 0, 0, 0, 0, 0, 0, 0, 0, 0, 0, 0, 0, 0, 0, 0, 0, 0, 0, 0, 0, 0, 0, 0, 0, 0, 0, 0, 0])] rfl) gw_X11_isGuest
set_option maxRecDepth 100000 in
theorem gX11_wrong_X11_isGuest : GoodIn wsX11_wrong (wsV RX11 255 RX11 yX11_isGuest wsX11_isGuest) := goodIn_app (goodIn_sub (sub_c (nq_m (n := 4) rfl) (sub_c (nq_m (n := 5) rfl) (sub_c (nq_m (n := 6) rfl) (sub_c (nq_m (n := 7) rfl) sub_n)))) (by decide +kernel)) ggX11_wrong_X11_isGuest
set_option maxRecDepth 100000 in
theorem ggX11_wrong_X11_in : GoodIn wsX11_wrong wsX11_in := goodIn_sub (sub_c (nq_m (n := 12) rfl) sub_n) gw_X11_in
set_option maxRecDepth 100000 in
theorem gX11_wrong_X11_in : GoodIn wsX11_wrong (va_wsS RX11 126 yX11_in wsX11_in) := goodIn_app (goodIn_sub (sub_c (nq_m (n := 10) rfl) (sub_c (nq_m (n := 11) rfl) (sub_c (nq_m (n := 7) rfl) sub_n))) (by decide +kernel)) ggX11_wrong_X11_in
noncomputable def dX11_wrong_0_l : List (Nat × Instr × Nat) := [(0, .aload_n 0, 1), (1, .iload_n 1, 1), (2, .invokevirtual 255, 3), (5, .ifCond .ne 7, 3), (8, .sipush (-1001), 3), (11, .ireturn, 1), (12, .iload_n 2, 1), (13, .i2l, 1), (14, .lconst 0, 1), (15, .lconst 1, 1), (16, .invokestatic 126, 3), (19, .ifCond .ne 7, 3), (22, .sipush (-1002), 3), (25, .ireturn, 1), (26, .iconst (-1), 1), (27, .istore_n 3, 1), (28, .iconst 0, 1), (29, .istore 4, 2), (31, .iload 4, 2), (33, .aload_n 0, 1), (34, .getfield 215, 3), (37, .if_icmp .ge 46, 3), (40, .aload_n 0, 1), (41, .getfield 84, 3), (44, .bipush 7, 2), (46, .iload 4, 2), (48, .imul, 1), (49, .iaload, 1), (50, .iconst 1, 1), (51, .if_icmp .ne 24, 3), (54, .aload_n 0, 1), (55, .getfield 84, 3), (58, .bipush 7, 2), (60, .iload 4, 2), (62, .imul, 1), (63, .iconst 5, 1), (64, .iadd, 1), (65, .iaload, 1), (66, .iload_n 1, 1), (67, .if_icmp .ne 8, 3)]
set_option maxRecDepth 100000 in
theorem dX11_wrong_0_g : dX11_wrong_0_l.all (fun x => decide (decode cX11_wrong x.1 = .ok x.2)) = true := by decide +kernel
noncomputable def dX11_wrong_70_l : List (Nat × Instr × Nat) := [(70, .iload 4, 2), (72, .goto 4, 3), (75, .iload_n 3, 1), (76, .istore_n 3, 1), (77, .iinc 4 1, 3), (80, .goto (-49), 3), (83, .iconst (-1), 1), (84, .istore 4, 2), (86, .aload_n 0, 1), (87, .getfield 62, 3), (90, .iload_n 1, 1), (91, .iaload, 1), (92, .ifCond .lt 35, 3), (95, .aload_n 0, 1), (96, .getfield 84, 3), (99, .bipush 7, 2), (101, .aload_n 0, 1), (102, .getfield 62, 3), (105, .iload_n 1, 1), (106, .iaload, 1), (107, .imul, 1), (108, .bipush 6, 2), (110, .iadd, 1), (111, .iaload, 1), (112, .iconst 1, 1), (113, .if_icmp .ne 14, 3), (116, .aload_n 0, 1), (117, .getfield 62, 3), (120, .iload_n 1, 1), (121, .iaload, 1), (122, .istore 4, 2), (124, .goto 75, 3), (127, .iload_n 3, 1), (128, .ifCond .lt 71, 3), (131, .aload_n 0, 1), (132, .getfield 62, 3), (135, .aload_n 0, 1), (136, .getfield 84, 3), (139, .bipush 7, 2), (141, .iload_n 3, 1)]
set_option maxRecDepth 100000 in
theorem dX11_wrong_70_g : dX11_wrong_70_l.all (fun x => decide (decode cX11_wrong x.1 = .ok x.2)) = true := by decide +kernel
noncomputable def dX11_wrong_142_l : List (Nat × Instr × Nat) := [(142, .imul, 1), (143, .iconst 2, 1), (144, .iadd, 1), (145, .iaload, 1), (146, .iaload, 1), (147, .istore 5, 2), (149, .aload_n 0, 1), (150, .getfield 84, 3), (153, .bipush 7, 2), (155, .iload_n 3, 1), (156, .imul, 1), (157, .bipush 6, 2), (159, .iadd, 1), (160, .iaload, 1), (161, .iconst 1, 1), (162, .if_icmp .ne 7, 3), (165, .iload_n 3, 1), (166, .goto 31, 3), (169, .iload 5, 2), (171, .ifCond .lt 25, 3), (174, .aload_n 0, 1), (175, .getfield 84, 3), (178, .bipush 7, 2), (180, .iload 5, 2), (182, .imul, 1), (183, .bipush 6, 2), (185, .iadd, 1), (186, .iaload, 1), (187, .iconst 1, 1), (188, .if_icmp .ne 8, 3), (191, .iload 5, 2), (193, .goto 4, 3), (196, .iconst (-1), 1), (197, .istore 4, 2), (199, .iload 4, 2), (201, .ifCond .ge 7, 3), (204, .iconst (-1), 1), (205, .goto 24, 3), (208, .iload_n 2, 1), (209, .ifCond .ne 18, 3)]
set_option maxRecDepth 100000 in
theorem dX11_wrong_142_g : dX11_wrong_142_l.all (fun x => decide (decode cX11_wrong x.1 = .ok x.2)) = true := by decide +kernel
noncomputable def dX11_wrong_212_l : List (Nat × Instr × Nat) := [(212, .aload_n 0, 1), (213, .getfield 84, 3), (216, .bipush 7, 2), (218, .iload 4, 2), (220, .imul, 1), (221, .iconst 1, 1), (222, .iadd, 1), (223, .iaload, 1), (224, .goto 5, 3), (227, .iload 4, 2), (229, .ireturn, 1)]
set_option maxRecDepth 100000 in
theorem dX11_wrong_212_g : dX11_wrong_212_l.all (fun x => decide (decode cX11_wrong x.1 = .ok x.2)) = true := by decide +kernel
set_option maxRecDepth 100000 in
theorem ggX11_runRow_X11_pegOf : GoodIn wsX11_runRow wsX11_pegOf := goodIn_sub (sub_g [(14, [0, 0, 0, 0, 0, 0, 0, 0, 0, 0, 0, 0, 0, 0, 0, 0, 0, 0, 0, 0, 0, 0, 0, 0, 0, 0, 0, 0, 0, 0, 0, 0, 0, 0, 0, 0, 0, 0, 0, 0, 0, 0, 0, 0, 0, 0, 0, 0, 0, 0, 0, 0, 0, 0, 0, 0, 0, 0, 0, 0])] rfl) gw_X11_pegOf
set_option maxRecDepth 100000 in
theorem gX11_runRow_X11_pegOf : GoodIn wsX11_runRow (wsV RX11 258 RX11 yX11_pegOf wsX11_pegOf) := goodIn_app (goodIn_sub (sub_c (nq_m (n := 10) rfl) (sub_c (nq_m (n := 11) rfl) (sub_c (nq_m (n := 12) rfl) (sub_c (nq_m (n := 13) rfl) sub_n)))) (by decide +kernel)) ggX11_runRow_X11_pegOf
noncomputable def dX11_runRow_0_l : List (Nat × Instr × Nat) := [(0, .aload_n 0, 1), (1, .iconst 0, 1), (2, .putfield 315, 3), (5, .aload_n 0, 1), (6, .iconst 0, 1), (7, .putfield 318, 3), (10, .aload_n 0, 1), (11, .iconst 0, 1), (12, .putfield 321, 3), (15, .iconst 0, 1), (16, .istore_n 2, 1), (17, .iload_n 2, 1), (18, .iconst 4, 1), (19, .if_icmp .ge 16, 3), (22, .aload_n 0, 1), (23, .getfield 93, 3), (26, .iload_n 2, 1), (27, .iconst 0, 1), (28, .iastore, 1), (29, .iinc 2 1, 3), (32, .goto (-15), 3), (35, .iconst 0, 1), (36, .istore_n 2, 1), (37, .iload_n 2, 1), (38, .aload_n 0, 1), (39, .getfield 324, 3), (42, .if_icmp .ge 172, 3), (45, .aload_n 0, 1), (46, .getfield 90, 3), (49, .iload_n 2, 1), (50, .iaload, 1), (51, .istore_n 3, 1), (52, .iconst 0, 1), (53, .istore 4, 2), (55, .iconst 1, 1), (56, .istore 5, 2), (58, .iload 5, 2), (60, .iload_n 1, 1), (61, .if_icmp .ge 35, 3), (64, .aload_n 0, 1)]
set_option maxRecDepth 100000 in
theorem dX11_runRow_0_g : dX11_runRow_0_l.all (fun x => decide (decode cX11_runRow x.1 = .ok x.2)) = true := by decide +kernel
noncomputable def dX11_runRow_65_l : List (Nat × Instr × Nat) := [(65, .getfield 93, 3), (68, .iload 5, 2), (70, .iaload, 1), (71, .aload_n 0, 1), (72, .getfield 93, 3), (75, .iload 4, 2), (77, .iaload, 1), (78, .if_icmp .ge 8, 3), (81, .iload 5, 2), (83, .goto 5, 3), (86, .iload 4, 2), (88, .istore 4, 2), (90, .iinc 5 1, 3), (93, .goto (-35), 3), (96, .aload_n 0, 1), (97, .getfield 93, 3), (100, .iload 4, 2), (102, .dup2, 1), (103, .iaload, 1), (104, .iconst 2, 1), (105, .aload_n 0, 1), (106, .getfield 13, 3), (109, .aload_n 0, 1), (110, .iload_n 3, 1), (111, .invokevirtual 258, 3), (114, .iaload, 1), (115, .imul, 1), (116, .aload_n 0, 1), (117, .getfield 19, 3), (120, .iconst 3, 1), (121, .iaload, 1), (122, .iadd, 1), (123, .iadd, 1), (124, .iastore, 1), (125, .aload_n 0, 1), (126, .getfield 93, 3), (129, .iload 4, 2), (131, .iaload, 1), (132, .istore 5, 2), (134, .aload_n 0, 1)]
set_option maxRecDepth 100000 in
theorem dX11_runRow_65_g : dX11_runRow_65_l.all (fun x => decide (decode cX11_runRow x.1 = .ok x.2)) = true := by decide +kernel
noncomputable def dX11_runRow_135_l : List (Nat × Instr × Nat) := [(135, .getfield 50, 3), (138, .iload_n 3, 1), (139, .iaload, 1), (140, .aload_n 0, 1), (141, .getfield 19, 3), (144, .iconst 4, 1), (145, .iaload, 1), (146, .iload 5, 2), (148, .imul, 1), (149, .bipush 10, 2), (151, .idiv, 1), (152, .isub, 1), (153, .istore 6, 2), (155, .aload_n 0, 1), (156, .dup, 1), (157, .getfield 315, 3), (160, .iload 5, 2), (162, .iadd, 1), (163, .putfield 315, 3), (166, .aload_n 0, 1), (167, .iload 5, 2), (169, .aload_n 0, 1), (170, .getfield 318, 3), (173, .if_icmp .le 8, 3), (176, .iload 5, 2), (178, .goto 7, 3), (181, .aload_n 0, 1), (182, .getfield 318, 3), (185, .putfield 318, 3), (188, .aload_n 0, 1), (189, .dup, 1), (190, .getfield 321, 3), (193, .iload 6, 2), (195, .ifCond .le 8, 3), (198, .iload 6, 2), (200, .goto 4, 3), (203, .iconst 0, 1), (204, .iadd, 1), (205, .putfield 321, 3), (208, .iinc 2 1, 3)]
set_option maxRecDepth 100000 in
theorem dX11_runRow_135_g : dX11_runRow_135_l.all (fun x => decide (decode cX11_runRow x.1 = .ok x.2)) = true := by decide +kernel
noncomputable def dX11_runRow_211_l : List (Nat × Instr × Nat) := [(211, .goto (-174), 3), (214, .return_, 1)]
set_option maxRecDepth 100000 in
theorem dX11_runRow_211_g : dX11_runRow_211_l.all (fun x => decide (decode cX11_runRow x.1 = .ok x.2)) = true := by decide +kernel
noncomputable def dX11_fillRow_0_l : List (Nat × Instr × Nat) := [(0, .aload_n 0, 1), (1, .iconst 0, 1), (2, .putfield 324, 3), (5, .iconst 0, 1), (6, .istore_n 2, 1), (7, .iload_n 2, 1), (8, .aload_n 0, 1), (9, .getfield 227, 3), (12, .if_icmp .ge 38, 3), (15, .iload_n 1, 1), (16, .iload_n 2, 1), (17, .ishr, 1), (18, .iconst 1, 1), (19, .iand, 1), (20, .iconst 1, 1), (21, .if_icmp .ne 23, 3), (24, .aload_n 0, 1), (25, .getfield 90, 3), (28, .aload_n 0, 1), (29, .getfield 324, 3), (32, .iload_n 2, 1), (33, .iastore, 1), (34, .aload_n 0, 1), (35, .dup, 1), (36, .getfield 324, 3), (39, .iconst 1, 1), (40, .iadd, 1), (41, .putfield 324, 3), (44, .iinc 2 1, 3), (47, .goto (-40), 3), (50, .return_, 1)]
set_option maxRecDepth 100000 in
theorem dX11_fillRow_0_g : dX11_fillRow_0_l.all (fun x => decide (decode cX11_fillRow x.1 = .ok x.2)) = true := by decide +kernel
set_option maxRecDepth 100000 in
theorem gw_X11_areGuests : wsX11_areGuests.all goodWord = true := by decide +kernel
set_option maxRecDepth 100000 in
theorem ggX11_areHanging_X11_areGuests : GoodIn wsX11_areHanging wsX11_areGuests := goodIn_sub (sub_g [(6, []), (1, [5, 0]), (5, [3, 6, 0, 0, 0, 0, 0, 0, 0, 0, 0, 0, 0, 0, 0, 0, 0, 0, 0, 0, 0, 0, 0, 0, 0, 0, 0, 0, 0, 0, 0, 0, 0, 0, 0, 0, 0, 0, 0, 0, 0, 0, 0, 0, 0, 0, 0, 0, 0, 0, 0, 0, 0, 0, 0, 0, 0, 0, 0])] rfl) gw_X11_areGuests
set_option maxRecDepth 100000 in
theorem gX11_areHanging_X11_areGuests : GoodIn wsX11_areHanging (wsV RX11 327 RX11 yX11_areGuests wsX11_areGuests) := goodIn_app (goodIn_sub (sub_c (nq_m (n := 2) rfl) (sub_c (nq_m (n := 3) rfl) (sub_c (nq_m (n := 4) rfl) (sub_c (nq_m (n := 5) rfl) sub_n)))) (by decide +kernel)) ggX11_areHanging_X11_areGuests
set_option maxRecDepth 100000 in
theorem ggX11_areHanging_X11_pegOf : GoodIn wsX11_areHanging wsX11_pegOf := goodIn_sub (sub_g [(13, [0, 0, 0, 0, 0, 0, 0, 0, 0, 0, 0, 0, 0, 0, 0, 0, 0, 0, 0, 0, 0, 0, 0, 0, 0, 0, 0, 0, 0, 0, 0, 0, 0, 0, 0, 0, 0, 0, 0, 0, 0, 0, 0, 0, 0, 0, 0, 0, 0, 0, 0, 0, 0, 0, 0, 0, 0, 0, 0, 0])] rfl) gw_X11_pegOf
set_option maxRecDepth 100000 in
theorem gX11_areHanging_X11_pegOf : GoodIn wsX11_areHanging (wsV RX11 258 RX11 yX11_pegOf wsX11_pegOf) := goodIn_app (goodIn_sub (sub_c (nq_m (n := 10) rfl) (sub_c (nq_m (n := 11) rfl) (sub_c (nq_m (n := 12) rfl) (sub_c (nq_m (n := 5) rfl) sub_n)))) (by decide +kernel)) ggX11_areHanging_X11_pegOf
noncomputable def dX11_areHanging_0_l : List (Nat × Instr × Nat) := [(0, .aload_n 0, 1), (1, .iload_n 1, 1), (2, .invokevirtual 327, 3), (5, .istore_n 2, 1), (6, .iconst 0, 1), (7, .istore_n 3, 1), (8, .iload_n 3, 1), (9, .aload_n 0, 1), (10, .getfield 227, 3), (13, .if_icmp .ge 35, 3), (16, .iload_n 2, 1), (17, .ifCond .eq 31, 3), (20, .iload_n 1, 1), (21, .iload_n 3, 1), (22, .ishr, 1), (23, .iconst 1, 1), (24, .iand, 1), (25, .ifCond .eq 11, 3), (28, .aload_n 0, 1), (29, .iload_n 3, 1), (30, .invokevirtual 258, 3), (33, .ifCond .lt 7, 3), (36, .iconst 1, 1), (37, .goto 4, 3), (40, .iconst 0, 1), (41, .istore_n 2, 1), (42, .iinc 3 1, 3), (45, .goto (-37), 3), (48, .iload_n 2, 1), (49, .ireturn, 1)]
set_option maxRecDepth 100000 in
theorem dX11_areHanging_0_g : dX11_areHanging_0_l.all (fun x => decide (decode cX11_areHanging x.1 = .ok x.2)) = true := by decide +kernel
set_option maxRecDepth 100000 in
theorem gw_X11_areHanging : wsX11_areHanging.all goodWord = true := by decide +kernel
set_option maxRecDepth 100000 in
theorem ggX11_rush_X11_areHanging : GoodIn wsX11_rush wsX11_areHanging := goodIn_sub (sub_g [(10, [0, 0, 0, 0]), (9, [5, 0, 0, 0, 0, 0, 0, 0, 0, 0, 14, 0, 0, 0, 0, 0, 0, 0, 0, 0, 0, 0, 0, 0, 0, 0, 0, 0, 0, 0, 0, 0, 0, 0, 0, 0, 0, 0, 0, 0, 0, 0, 0, 0, 0, 0, 0, 0, 0, 0, 0, 0, 0, 0, 0, 0, 0, 0, 0, 0, 0, 0, 0, 0, 0, 0, 0, 0])] rfl) gw_X11_areHanging
set_option maxRecDepth 100000 in
theorem gX11_rush_X11_areHanging : GoodIn wsX11_rush (wsV RX11 330 RX11 yX11_areHanging wsX11_areHanging) := goodIn_app (goodIn_sub (sub_c (nq_m (n := 6) rfl) (sub_c (nq_m (n := 7) rfl) (sub_c (nq_m (n := 8) rfl) (sub_c (nq_m (n := 9) rfl) sub_n)))) (by decide +kernel)) ggX11_rush_X11_areHanging
set_option maxRecDepth 100000 in
theorem ggX11_rush_X11_in : GoodIn wsX11_rush wsX11_in := goodIn_sub (sub_c (nq_m (n := 18) rfl) sub_n) gw_X11_in
set_option maxRecDepth 100000 in
theorem gX11_rush_X11_in : GoodIn wsX11_rush (va_wsS RX11 126 yX11_in wsX11_in) := goodIn_app (goodIn_sub (sub_c (nq_m (n := 16) rfl) (sub_c (nq_m (n := 17) rfl) (sub_c (nq_m (n := 9) rfl) sub_n))) (by decide +kernel)) ggX11_rush_X11_in
set_option maxRecDepth 100000 in
theorem gw_X11_fillRow : wsX11_fillRow.all goodWord = true := by decide +kernel
set_option maxRecDepth 100000 in
theorem ggX11_rush_X11_fillRow : GoodIn wsX11_rush wsX11_fillRow := goodIn_sub (sub_g [(28, [0]), (11, [18, 8, 0, 0, 0, 0, 0, 0, 0, 0, 0, 0, 0, 0, 0, 0, 0, 0, 0, 0, 0, 0, 0, 0, 0, 0, 0, 0, 0, 0, 0, 0, 0, 0, 0, 0, 0, 0, 0, 0, 0, 0, 0, 0, 0, 0, 0, 0, 0, 0, 0, 0, 0, 0, 0, 0, 0, 0, 0])] rfl) gw_X11_fillRow
set_option maxRecDepth 100000 in
theorem gX11_rush_X11_fillRow : GoodIn wsX11_rush (wsV RX11 335 RX11 yX11_fillRow wsX11_fillRow) := goodIn_app (goodIn_sub (sub_c (nq_m (n := 25) rfl) (sub_c (nq_m (n := 26) rfl) (sub_c (nq_m (n := 27) rfl) (sub_c (nq_m (n := 9) rfl) sub_n)))) (by decide +kernel)) ggX11_rush_X11_fillRow
set_option maxRecDepth 100000 in
theorem gw_X11_runRow : wsX11_runRow.all goodWord = true := by decide +kernel
set_option maxRecDepth 100000 in
theorem ggX11_rush_X11_runRow : GoodIn wsX11_rush wsX11_runRow := goodIn_sub (sub_g [(34, []), (3, [0, 0, 29]), (29, [0, 5, 0, 0]), (19, [0, 0]), (9, [12, 0, 0, 14, 0, 0, 0, 0, 0, 0, 0, 0, 0, 0, 0, 0, 0, 0, 0, 0, 0, 0, 0, 0, 0, 0, 0, 0, 0, 0, 0, 0, 0, 0, 0, 0, 0, 0, 0, 0, 0, 0, 0, 0, 0, 0, 0, 0, 0, 0, 0, 0, 0, 0, 0, 0, 0, 0, 0, 0, 0])] rfl) gw_X11_runRow
set_option maxRecDepth 100000 in
theorem gX11_rush_X11_runRow : GoodIn wsX11_rush (wsV RX11 338 RX11 yX11_runRow wsX11_runRow) := goodIn_app (goodIn_sub (sub_c (nq_m (n := 31) rfl) (sub_c (nq_m (n := 32) rfl) (sub_c (nq_m (n := 33) rfl) (sub_c (nq_m (n := 9) rfl) sub_n)))) (by decide +kernel)) ggX11_rush_X11_runRow
noncomputable def dX11_rush_0_l : List (Nat × Instr × Nat) := [(0, .aload_n 0, 1), (1, .iload_n 1, 1), (2, .invokevirtual 330, 3), (5, .ifCond .ne 7, 3), (8, .sipush (-1001), 3), (11, .ireturn, 1), (12, .iload_n 2, 1), (13, .i2l, 1), (14, .lconst 1, 1), (15, .ldc2_w 333, 3), (18, .invokestatic 126, 3), (21, .ifCond .eq 15, 3), (24, .iload_n 3, 1), (25, .i2l, 1), (26, .lconst 0, 1), (27, .ldc2_w 236, 3), (30, .invokestatic 126, 3), (33, .ifCond .ne 7, 3), (36, .sipush (-1002), 3), (39, .ireturn, 1), (40, .aload_n 0, 1), (41, .iload_n 1, 1), (42, .invokevirtual 335, 3), (45, .aload_n 0, 1), (46, .iload_n 2, 1), (47, .invokevirtual 338, 3), (50, .iload_n 3, 1), (51, .ifCond .ne 10, 3), (54, .aload_n 0, 1), (55, .getfield 315, 3), (58, .goto 19, 3), (61, .iload_n 3, 1), (62, .iconst 1, 1), (63, .if_icmp .ne 10, 3), (66, .aload_n 0, 1), (67, .getfield 318, 3), (70, .goto 7, 3), (73, .aload_n 0, 1), (74, .getfield 321, 3), (77, .ireturn, 1)]
set_option maxRecDepth 100000 in
theorem dX11_rush_0_g : dX11_rush_0_l.all (fun x => decide (decode cX11_rush x.1 = .ok x.2)) = true := by decide +kernel
noncomputable def dX11_nextRow_0_l : List (Nat × Instr × Nat) := [(0, .aload_n 0, 1), (1, .getfield 324, 3), (4, .iconst 2, 1), (5, .isub, 1), (6, .istore_n 1, 1), (7, .iload_n 1, 1), (8, .ifCond .lt 26, 3), (11, .aload_n 0, 1), (12, .getfield 90, 3), (15, .iload_n 1, 1), (16, .iaload, 1), (17, .aload_n 0, 1), (18, .getfield 90, 3), (21, .iload_n 1, 1), (22, .iconst 1, 1), (23, .iadd, 1), (24, .iaload, 1), (25, .if_icmp .le 9, 3), (28, .iinc 1 (-1), 3), (31, .goto (-24), 3), (34, .iload_n 1, 1), (35, .ifCond .ge 5, 3), (38, .iconst 0, 1), (39, .ireturn, 1), (40, .aload_n 0, 1), (41, .getfield 324, 3), (44, .iconst 1, 1), (45, .isub, 1), (46, .istore_n 2, 1), (47, .aload_n 0, 1), (48, .getfield 90, 3), (51, .iload_n 2, 1), (52, .iaload, 1), (53, .aload_n 0, 1), (54, .getfield 90, 3), (57, .iload_n 1, 1), (58, .iaload, 1), (59, .if_icmp .ge 9, 3), (62, .iinc 2 (-1), 3), (65, .goto (-18), 3)]
set_option maxRecDepth 100000 in
theorem dX11_nextRow_0_g : dX11_nextRow_0_l.all (fun x => decide (decode cX11_nextRow x.1 = .ok x.2)) = true := by decide +kernel
noncomputable def dX11_nextRow_68_l : List (Nat × Instr × Nat) := [(68, .aload_n 0, 1), (69, .getfield 90, 3), (72, .iload_n 1, 1), (73, .iaload, 1), (74, .istore_n 3, 1), (75, .aload_n 0, 1), (76, .getfield 90, 3), (79, .iload_n 1, 1), (80, .aload_n 0, 1), (81, .getfield 90, 3), (84, .iload_n 2, 1), (85, .iaload, 1), (86, .iastore, 1), (87, .aload_n 0, 1), (88, .getfield 90, 3), (91, .iload_n 2, 1), (92, .iload_n 3, 1), (93, .iastore, 1), (94, .iload_n 1, 1), (95, .iconst 1, 1), (96, .iadd, 1), (97, .istore 4, 2), (99, .aload_n 0, 1), (100, .getfield 324, 3), (103, .iconst 1, 1), (104, .isub, 1), (105, .istore 5, 2), (107, .iload 4, 2), (109, .iload 5, 2), (111, .if_icmp .ge 44, 3), (114, .aload_n 0, 1), (115, .getfield 90, 3), (118, .iload 4, 2), (120, .iaload, 1), (121, .istore 6, 2), (123, .aload_n 0, 1), (124, .getfield 90, 3), (127, .iload 4, 2), (129, .aload_n 0, 1), (130, .getfield 90, 3)]
set_option maxRecDepth 100000 in
theorem dX11_nextRow_68_g : dX11_nextRow_68_l.all (fun x => decide (decode cX11_nextRow x.1 = .ok x.2)) = true := by decide +kernel
noncomputable def dX11_nextRow_133_l : List (Nat × Instr × Nat) := [(133, .iload 5, 2), (135, .iaload, 1), (136, .iastore, 1), (137, .aload_n 0, 1), (138, .getfield 90, 3), (141, .iload 5, 2), (143, .iload 6, 2), (145, .iastore, 1), (146, .iinc 4 1, 3), (149, .iinc 5 (-1), 3), (152, .goto (-45), 3), (155, .iconst 1, 1), (156, .ireturn, 1)]
set_option maxRecDepth 100000 in
theorem dX11_nextRow_133_g : dX11_nextRow_133_l.all (fun x => decide (decode cX11_nextRow x.1 = .ok x.2)) = true := by decide +kernel
set_option maxRecDepth 100000 in
theorem ggX11_bestRow_X11_areHanging : GoodIn wsX11_bestRow wsX11_areHanging := goodIn_sub (sub_g [(11, [0, 0, 0, 0]), (10, [5, 0, 0, 0, 0, 0, 0, 0, 0, 0, 20, 0, 0, 0, 0, 0, 0, 0, 0, 0, 0, 0, 0, 0, 0, 0, 0, 0, 0, 0, 0, 0, 0, 0, 0, 0, 0, 0, 0, 0, 0, 0, 0, 0, 0, 0, 0, 0, 0, 0, 0, 0, 0, 0, 0, 0, 0, 0, 0, 0, 0, 0, 0, 0, 0, 0, 0, 0])] rfl) gw_X11_areHanging
set_option maxRecDepth 100000 in
theorem gX11_bestRow_X11_areHanging : GoodIn wsX11_bestRow (wsV RX11 330 RX11 yX11_areHanging wsX11_areHanging) := goodIn_app (goodIn_sub (sub_c (nq_m (n := 7) rfl) (sub_c (nq_m (n := 8) rfl) (sub_c (nq_m (n := 9) rfl) (sub_c (nq_m (n := 10) rfl) sub_n)))) (by decide +kernel)) ggX11_bestRow_X11_areHanging
set_option maxRecDepth 100000 in
theorem ggX11_bestRow_X11_in : GoodIn wsX11_bestRow wsX11_in := goodIn_sub (sub_c (nq_m (n := 19) rfl) sub_n) gw_X11_in
set_option maxRecDepth 100000 in
theorem gX11_bestRow_X11_in : GoodIn wsX11_bestRow (va_wsS RX11 126 yX11_in wsX11_in) := goodIn_app (goodIn_sub (sub_c (nq_m (n := 17) rfl) (sub_c (nq_m (n := 18) rfl) (sub_c (nq_m (n := 10) rfl) sub_n))) (by decide +kernel)) ggX11_bestRow_X11_in
set_option maxRecDepth 100000 in
theorem gw_X11_bits : wsX11_bits.all goodWord = true := by decide +kernel
set_option maxRecDepth 100000 in
theorem ggX11_bestRow_X11_bits : GoodIn wsX11_bestRow wsX11_bits := goodIn_sub (sub_c (nq_m (n := 28) rfl) sub_n) gw_X11_bits
set_option maxRecDepth 100000 in
theorem gX11_bestRow_X11_bits : GoodIn wsX11_bestRow (va_wsS RX11 341 yX11_bits wsX11_bits) := goodIn_app (goodIn_sub (sub_c (nq_m (n := 26) rfl) (sub_c (nq_m (n := 27) rfl) (sub_c (nq_m (n := 10) rfl) sub_n))) (by decide +kernel)) ggX11_bestRow_X11_bits
set_option maxRecDepth 100000 in
theorem ggX11_bestRow_X11_fillRow : GoodIn wsX11_bestRow wsX11_fillRow := goodIn_sub (sub_g [(32, []), (4, [7]), (6, [39, 0, 0, 0, 0, 0, 0, 0, 0, 0, 0, 0, 0, 0, 0, 0, 0, 0, 0, 0, 0, 0, 0, 0, 0, 0, 0, 0, 0, 0, 0, 0, 0, 0, 0, 0, 0, 0, 0, 0, 0, 0, 0, 0, 0, 0, 0, 0, 0, 0, 0, 0, 0, 0, 0, 0, 0, 0])] rfl) gw_X11_fillRow
set_option maxRecDepth 100000 in
theorem gX11_bestRow_X11_fillRow : GoodIn wsX11_bestRow (wsV RX11 335 RX11 yX11_fillRow wsX11_fillRow) := goodIn_app (goodIn_sub (sub_c (nq_m (n := 29) rfl) (sub_c (nq_m (n := 30) rfl) (sub_c (nq_m (n := 31) rfl) (sub_c (nq_m (n := 10) rfl) sub_n)))) (by decide +kernel)) ggX11_bestRow_X11_fillRow
set_option maxRecDepth 100000 in
theorem ggX11_bestRow_X11_runRow : GoodIn wsX11_bestRow wsX11_runRow := goodIn_sub (sub_g [(36, []), (3, [33]), (2, [35]), (4, [1, 32, 0, 0]), (20, [0, 0]), (10, [12, 0, 0, 20, 0, 0, 0, 0, 0, 0, 0, 0, 0, 0, 0, 0, 0, 0, 0, 0, 0, 0, 0, 0, 0, 0, 0, 0, 0, 0, 0, 0, 0, 0, 0, 0, 0, 0, 0, 0, 0, 0, 0, 0, 0, 0, 0, 0, 0, 0, 0, 0, 0, 0, 0, 0, 0, 0, 0, 0, 0])] rfl) gw_X11_runRow
set_option maxRecDepth 100000 in
theorem gX11_bestRow_X11_runRow : GoodIn wsX11_bestRow (wsV RX11 338 RX11 yX11_runRow wsX11_runRow) := goodIn_app (goodIn_sub (sub_c (nq_m (n := 33) rfl) (sub_c (nq_m (n := 34) rfl) (sub_c (nq_m (n := 35) rfl) (sub_c (nq_m (n := 10) rfl) sub_n)))) (by decide +kernel)) ggX11_bestRow_X11_runRow
set_option maxRecDepth 100000 in
theorem gw_X11_nextRow : wsX11_nextRow.all goodWord = true := by decide +kernel
set_option maxRecDepth 100000 in
theorem ggX11_bestRow_X11_nextRow : GoodIn wsX11_bestRow wsX11_nextRow := goodIn_sub (sub_g [(45, []), (4, [1, 39, 0, 0, 0, 0, 0, 0, 0, 0, 0, 0, 0, 0, 0, 0, 0, 0, 0, 0, 0, 0, 0, 0, 0, 0, 0, 0, 0, 0, 0, 0, 0, 0, 0, 0, 0, 0, 0, 0, 0, 0, 0, 0, 0, 0, 0, 0, 0, 0, 0, 0, 0, 0, 0, 0, 0, 0, 0])] rfl) gw_X11_nextRow
set_option maxRecDepth 100000 in
theorem gX11_bestRow_X11_nextRow : GoodIn wsX11_bestRow (wsV RX11 344 RX11 yX11_nextRow wsX11_nextRow) := goodIn_app (goodIn_sub (sub_c (nq_m (n := 42) rfl) (sub_c (nq_m (n := 43) rfl) (sub_c (nq_m (n := 44) rfl) (sub_c (nq_m (n := 10) rfl) sub_n)))) (by decide +kernel)) ggX11_bestRow_X11_nextRow
noncomputable def dX11_bestRow_0_l : List (Nat × Instr × Nat) := [(0, .aload_n 0, 1), (1, .iload_n 1, 1), (2, .invokevirtual 330, 3), (5, .ifCond .ne 7, 3), (8, .sipush (-1001), 3), (11, .ireturn, 1), (12, .iload_n 2, 1), (13, .i2l, 1), (14, .lconst 1, 1), (15, .ldc2_w 333, 3), (18, .invokestatic 126, 3), (21, .ifCond .ne 7, 3), (24, .sipush (-1002), 3), (27, .ireturn, 1), (28, .iload_n 1, 1), (29, .invokestatic 341, 3), (32, .bipush 7, 2), (34, .if_icmp .le 7, 3), (37, .sipush (-1003), 3), (40, .ireturn, 1), (41, .aload_n 0, 1), (42, .iload_n 1, 1), (43, .invokevirtual 335, 3), (46, .iconst (-1), 1), (47, .istore 4, 2), (49, .iconst 0, 1), (50, .istore 5, 2), (52, .iconst 1, 1), (53, .istore 6, 2), (55, .iload 6, 2), (57, .ifCond .eq 88, 3), (60, .aload_n 0, 1), (61, .iload_n 2, 1), (62, .invokevirtual 338, 3), (65, .aload_n 0, 1), (66, .getfield 321, 3), (69, .iload 4, 2), (71, .if_icmp .gt 21, 3), (74, .aload_n 0, 1), (75, .getfield 321, 3)]
set_option maxRecDepth 100000 in
theorem dX11_bestRow_0_g : dX11_bestRow_0_l.all (fun x => decide (decode cX11_bestRow x.1 = .ok x.2)) = true := by decide +kernel
noncomputable def dX11_bestRow_78_l : List (Nat × Instr × Nat) := [(78, .iload 4, 2), (80, .if_icmp .ne 56, 3), (83, .aload_n 0, 1), (84, .getfield 315, 3), (87, .iload 5, 2), (89, .if_icmp .ge 47, 3), (92, .aload_n 0, 1), (93, .getfield 321, 3), (96, .istore 4, 2), (98, .aload_n 0, 1), (99, .getfield 315, 3), (102, .istore 5, 2), (104, .iconst 0, 1), (105, .istore 7, 2), (107, .iload 7, 2), (109, .aload_n 0, 1), (110, .getfield 324, 3), (113, .if_icmp .ge 23, 3), (116, .aload_n 0, 1), (117, .getfield 96, 3), (120, .iload 7, 2), (122, .aload_n 0, 1), (123, .getfield 90, 3), (126, .iload 7, 2), (128, .iaload, 1), (129, .iastore, 1), (130, .iinc 7 1, 3), (133, .goto (-26), 3), (136, .aload_n 0, 1), (137, .invokevirtual 344, 3), (140, .istore 6, 2), (142, .goto (-87), 3), (145, .iload_n 3, 1), (146, .iconst (-1), 1), (147, .if_icmp .ne 8, 3), (150, .iload 4, 2), (152, .goto 29, 3), (155, .iload_n 3, 1), (156, .i2l, 1), (157, .lconst 0, 1)]
set_option maxRecDepth 100000 in
theorem dX11_bestRow_78_g : dX11_bestRow_78_l.all (fun x => decide (decode cX11_bestRow x.1 = .ok x.2)) = true := by decide +kernel
noncomputable def dX11_bestRow_158_l : List (Nat × Instr × Nat) := [(158, .aload_n 0, 1), (159, .getfield 324, 3), (162, .iconst 1, 1), (163, .isub, 1), (164, .i2l, 1), (165, .invokestatic 126, 3), (168, .ifCond .eq 12, 3), (171, .aload_n 0, 1), (172, .getfield 96, 3), (175, .iload_n 3, 1), (176, .iaload, 1), (177, .goto 4, 3), (180, .iconst (-1), 1), (181, .ireturn, 1)]
set_option maxRecDepth 100000 in
theorem dX11_bestRow_158_g : dX11_bestRow_158_l.all (fun x => decide (decode cX11_bestRow x.1 = .ok x.2)) = true := by decide +kernel
set_option maxRecDepth 100000 in
theorem ggX11_wanted_X11_areHanging : GoodIn wsX11_wanted wsX11_areHanging := goodIn_sub (sub_g [(7, [0, 0, 0, 0]), (6, [5, 0, 0, 0, 0, 0, 0, 0, 0, 0, 16, 0, 0, 0, 0, 0, 0, 0, 0, 0, 0, 0, 0, 0, 0, 0, 0, 0, 0, 0, 0, 0, 0, 0, 0, 0, 0, 0, 0, 0, 0, 0, 0, 0, 0, 0, 0, 0, 0, 0, 0, 0, 0, 0, 0, 0, 0, 0, 0, 0, 0, 0, 0, 0, 0, 0, 0, 0])] rfl) gw_X11_areHanging
set_option maxRecDepth 100000 in
theorem gX11_wanted_X11_areHanging : GoodIn wsX11_wanted (wsV RX11 330 RX11 yX11_areHanging wsX11_areHanging) := goodIn_app (goodIn_sub (sub_c (nq_m (n := 3) rfl) (sub_c (nq_m (n := 4) rfl) (sub_c (nq_m (n := 5) rfl) (sub_c (nq_m (n := 6) rfl) sub_n)))) (by decide +kernel)) ggX11_wanted_X11_areHanging
set_option maxRecDepth 100000 in
theorem ggX11_wanted_X11_in : GoodIn wsX11_wanted wsX11_in := goodIn_sub (sub_c (nq_m (n := 15) rfl) sub_n) gw_X11_in
set_option maxRecDepth 100000 in
theorem gX11_wanted_X11_in : GoodIn wsX11_wanted (va_wsS RX11 126 yX11_in wsX11_in) := goodIn_app (goodIn_sub (sub_c (nq_m (n := 13) rfl) (sub_c (nq_m (n := 14) rfl) (sub_c (nq_m (n := 6) rfl) sub_n))) (by decide +kernel)) ggX11_wanted_X11_in
set_option maxRecDepth 100000 in
theorem ggX11_wanted_X11_fillRow : GoodIn wsX11_wanted wsX11_fillRow := goodIn_sub (sub_g [(25, [0]), (8, [18, 10, 0, 0, 0, 0, 0, 0, 0, 0, 0, 0, 0, 0, 0, 0, 0, 0, 0, 0, 0, 0, 0, 0, 0, 0, 0, 0, 0, 0, 0, 0, 0, 0, 0, 0, 0, 0, 0, 0, 0, 0, 0, 0, 0, 0, 0, 0, 0, 0, 0, 0, 0, 0, 0, 0, 0, 0, 0])] rfl) gw_X11_fillRow
set_option maxRecDepth 100000 in
theorem gX11_wanted_X11_fillRow : GoodIn wsX11_wanted (wsV RX11 335 RX11 yX11_fillRow wsX11_fillRow) := goodIn_app (goodIn_sub (sub_c (nq_m (n := 22) rfl) (sub_c (nq_m (n := 23) rfl) (sub_c (nq_m (n := 24) rfl) (sub_c (nq_m (n := 6) rfl) sub_n)))) (by decide +kernel)) ggX11_wanted_X11_fillRow
set_option maxRecDepth 100000 in
theorem ggX11_wanted_X11_runRow : GoodIn wsX11_wanted wsX11_runRow := goodIn_sub (sub_g [(31, [0]), (2, [30, 0]), (26, [0, 7, 0, 0]), (16, [0, 0]), (6, [12, 0, 0, 16, 0, 0, 0, 0, 0, 0, 0, 0, 0, 0, 0, 0, 0, 0, 0, 0, 0, 0, 0, 0, 0, 0, 0, 0, 0, 0, 0, 0, 0, 0, 0, 0, 0, 0, 0, 0, 0, 0, 0, 0, 0, 0, 0, 0, 0, 0, 0, 0, 0, 0, 0, 0, 0, 0, 0, 0, 0])] rfl) gw_X11_runRow
set_option maxRecDepth 100000 in
theorem gX11_wanted_X11_runRow : GoodIn wsX11_wanted (wsV RX11 338 RX11 yX11_runRow wsX11_runRow) := goodIn_app (goodIn_sub (sub_c (nq_m (n := 28) rfl) (sub_c (nq_m (n := 29) rfl) (sub_c (nq_m (n := 30) rfl) (sub_c (nq_m (n := 6) rfl) sub_n)))) (by decide +kernel)) ggX11_wanted_X11_runRow
noncomputable def dX11_wanted_0_l : List (Nat × Instr × Nat) := [(0, .aload_n 0, 1), (1, .iload_n 1, 1), (2, .invokevirtual 330, 3), (5, .ifCond .ne 7, 3), (8, .sipush (-1001), 3), (11, .ireturn, 1), (12, .iload_n 2, 1), (13, .i2l, 1), (14, .lconst 0, 1), (15, .ldc2_w 348, 3), (18, .invokestatic 126, 3), (21, .ifCond .ne 7, 3), (24, .sipush (-1002), 3), (27, .ireturn, 1), (28, .aload_n 0, 1), (29, .iload_n 1, 1), (30, .invokevirtual 335, 3), (33, .iconst 1, 1), (34, .istore_n 3, 1), (35, .iload_n 3, 1), (36, .iconst 4, 1), (37, .if_icmp .gt 24, 3), (40, .aload_n 0, 1), (41, .iload_n 3, 1), (42, .invokevirtual 338, 3), (45, .aload_n 0, 1), (46, .getfield 318, 3), (49, .iload_n 2, 1), (50, .if_icmp .gt 5, 3), (53, .iload_n 3, 1), (54, .ireturn, 1), (55, .iinc 3 1, 3), (58, .goto (-23), 3), (61, .iconst (-1), 1), (62, .ireturn, 1)]
set_option maxRecDepth 100000 in
theorem dX11_wanted_0_g : dX11_wanted_0_l.all (fun x => decide (decode cX11_wanted x.1 = .ok x.2)) = true := by decide +kernel
set_option maxRecDepth 100000 in
theorem ggX11_isClaim_X11_in : GoodIn wsX11_isClaim wsX11_in := goodIn_sub (sub_c (nq_m (n := 5) rfl) sub_n) gw_X11_in
set_option maxRecDepth 100000 in
theorem gX11_isClaim_X11_in : GoodIn wsX11_isClaim (va_wsS RX11 126 yX11_in wsX11_in) := goodIn_app (goodIn_sub (sub_c (nq_m (n := 2) rfl) (sub_c (nq_m (n := 3) rfl) (sub_c (nq_m (n := 4) rfl) sub_n))) (by decide +kernel)) ggX11_isClaim_X11_in
noncomputable def dX11_isClaim_0_l : List (Nat × Instr × Nat) := [(0, .iload_n 1, 1), (1, .i2l, 1), (2, .lconst 0, 1), (3, .aload_n 0, 1), (4, .getfield 238, 3), (7, .iconst 1, 1), (8, .isub, 1), (9, .i2l, 1), (10, .invokestatic 126, 3), (13, .ireturn, 1)]
set_option maxRecDepth 100000 in
theorem dX11_isClaim_0_g : dX11_isClaim_0_l.all (fun x => decide (decode cX11_isClaim x.1 = .ok x.2)) = true := by decide +kernel
noncomputable def dX11_hasClaim_0_l : List (Nat × Instr × Nat) := [(0, .iconst 0, 1), (1, .istore_n 2, 1), (2, .iconst 0, 1), (3, .istore_n 3, 1), (4, .iload_n 3, 1), (5, .aload_n 0, 1), (6, .getfield 238, 3), (9, .if_icmp .ge 29, 3), (12, .iload_n 2, 1), (13, .ifCond .ne 13, 3), (16, .aload_n 0, 1), (17, .getfield 99, 3), (20, .iload_n 3, 1), (21, .iaload, 1), (22, .iload_n 1, 1), (23, .if_icmp .ne 7, 3), (26, .iconst 1, 1), (27, .goto 4, 3), (30, .iconst 0, 1), (31, .istore_n 2, 1), (32, .iinc 3 1, 3), (35, .goto (-31), 3), (38, .iload_n 2, 1), (39, .ireturn, 1)]
set_option maxRecDepth 100000 in
theorem dX11_hasClaim_0_g : dX11_hasClaim_0_l.all (fun x => decide (decode cX11_hasClaim x.1 = .ok x.2)) = true := by decide +kernel
set_option maxRecDepth 100000 in
theorem ggX11_claim_X11_isGuest : GoodIn wsX11_claim wsX11_isGuest := goodIn_sub (sub_g [(12, [0, 0, 0]), (11, [4, 4, 0, 0, 0, 0, 0, 0, 0, 0, 0, 0, 0, 0, 0, 0, 0, 0, 0, 0, 0, 0, 0, 0, 0, 0, 0, 0, 0, 0, 0, 0, 0, 0, 0, 0, 0, 0, 0, 0, 0, 0, 0, 0, 0, 0, 0, 0, 0, 0, 0, 0, 0, 0, 0, 0, 0, 0, 0])] rfl) gw_X11_isGuest
set_option maxRecDepth 100000 in
theorem gX11_claim_X11_isGuest : GoodIn wsX11_claim (wsV RX11 255 RX11 yX11_isGuest wsX11_isGuest) := goodIn_app (goodIn_sub (sub_c (nq_m (n := 8) rfl) (sub_c (nq_m (n := 9) rfl) (sub_c (nq_m (n := 10) rfl) (sub_c (nq_m (n := 11) rfl) sub_n)))) (by decide +kernel)) ggX11_claim_X11_isGuest
set_option maxRecDepth 100000 in
theorem ggX11_claim_X11_in : GoodIn wsX11_claim wsX11_in := goodIn_sub (sub_c (nq_m (n := 16) rfl) sub_n) gw_X11_in
set_option maxRecDepth 100000 in
theorem gX11_claim_X11_in : GoodIn wsX11_claim (va_wsS RX11 126 yX11_in wsX11_in) := goodIn_app (goodIn_sub (sub_c (nq_m (n := 14) rfl) (sub_c (nq_m (n := 15) rfl) (sub_c (nq_m (n := 11) rfl) sub_n))) (by decide +kernel)) ggX11_claim_X11_in
set_option maxRecDepth 100000 in
theorem ggX11_claim_X11_hasClaim : GoodIn wsX11_claim wsX11_hasClaim := goodIn_sub (sub_g [(20, []), (4, [0, 15, 0, 0, 0, 0, 0, 0, 0, 0, 0, 0, 0, 0, 0, 0, 0, 0, 0, 0, 0, 0, 0, 0, 0, 0, 0, 0, 0, 0, 0, 0, 0, 0, 0, 0, 0, 0, 0, 0, 0, 0, 0, 0, 0, 0, 0, 0, 0, 0, 0, 0, 0, 0, 0, 0, 0, 0, 0])] rfl) gw_X11_hasClaim
set_option maxRecDepth 100000 in
theorem gX11_claim_X11_hasClaim : GoodIn wsX11_claim (wsV RX11 289 RX11 yX11_hasClaim wsX11_hasClaim) := goodIn_app (goodIn_sub (sub_c (nq_m (n := 17) rfl) (sub_c (nq_m (n := 18) rfl) (sub_c (nq_m (n := 19) rfl) (sub_c (nq_m (n := 11) rfl) sub_n)))) (by decide +kernel)) ggX11_claim_X11_hasClaim
noncomputable def dX11_claim_0_l : List (Nat × Instr × Nat) := [(0, .aload_n 0, 1), (1, .iload_n 1, 1), (2, .invokevirtual 255, 3), (5, .ifCond .ne 7, 3), (8, .sipush (-1001), 3), (11, .ireturn, 1), (12, .iload_n 2, 1), (13, .i2l, 1), (14, .lconst 0, 1), (15, .ldc2_w 133, 3), (18, .invokestatic 126, 3), (21, .ifCond .eq 21, 3), (24, .iload_n 3, 1), (25, .i2l, 1), (26, .lconst 0, 1), (27, .ldc2_w 133, 3), (30, .invokestatic 126, 3), (33, .ifCond .eq 9, 3), (36, .iload_n 2, 1), (37, .iload_n 3, 1), (38, .iand, 1), (39, .ifCond .eq 7, 3), (42, .sipush (-1002), 3), (45, .ireturn, 1), (46, .aload_n 0, 1), (47, .getfield 56, 3), (50, .iload_n 1, 1), (51, .iaload, 1), (52, .ifCond .ge 20, 3), (55, .aload_n 0, 1), (56, .getfield 59, 3), (59, .iload_n 1, 1), (60, .iaload, 1), (61, .ifCond .ge 11, 3), (64, .aload_n 0, 1), (65, .iload_n 1, 1), (66, .invokevirtual 289, 3), (69, .ifCond .eq 7, 3), (72, .sipush (-1003), 3), (75, .ireturn, 1)]
set_option maxRecDepth 100000 in
theorem dX11_claim_0_g : dX11_claim_0_l.all (fun x => decide (decode cX11_claim x.1 = .ok x.2)) = true := by decide +kernel
noncomputable def dX11_claim_76_l : List (Nat × Instr × Nat) := [(76, .aload_n 0, 1), (77, .getfield 238, 3), (80, .bipush 6, 2), (82, .if_icmp .ne 7, 3), (85, .sipush (-1004), 3), (88, .ireturn, 1), (89, .aload_n 0, 1), (90, .getfield 99, 3), (93, .aload_n 0, 1), (94, .getfield 238, 3), (97, .iload_n 1, 1), (98, .iastore, 1), (99, .aload_n 0, 1), (100, .getfield 102, 3), (103, .aload_n 0, 1), (104, .getfield 238, 3), (107, .iload_n 2, 1), (108, .iastore, 1), (109, .aload_n 0, 1), (110, .getfield 105, 3), (113, .aload_n 0, 1), (114, .getfield 238, 3), (117, .iload_n 3, 1), (118, .iastore, 1), (119, .aload_n 0, 1), (120, .dup, 1), (121, .getfield 238, 3), (124, .iconst 1, 1), (125, .iadd, 1), (126, .putfield 238, 3), (129, .aload_n 0, 1), (130, .getfield 238, 3), (133, .iconst 1, 1), (134, .isub, 1), (135, .ireturn, 1)]
set_option maxRecDepth 100000 in
theorem dX11_claim_76_g : dX11_claim_76_l.all (fun x => decide (decode cX11_claim x.1 = .ok x.2)) = true := by decide +kernel
noncomputable def dX11_fitting_0_l : List (Nat × Instr × Nat) := [(0, .iconst 0, 1), (1, .istore 4, 2), (3, .iconst 0, 1), (4, .istore 5, 2), (6, .iload 5, 2), (8, .aload_n 0, 1), (9, .getfield 221, 3), (12, .if_icmp .ge 93, 3), (15, .aload_n 0, 1), (16, .getfield 41, 3), (19, .iload 5, 2), (21, .iaload, 1), (22, .istore 6, 2), (24, .iload 6, 2), (26, .ifCond .lt 18, 3), (29, .aload_n 0, 1), (30, .getfield 7, 3), (33, .iload 5, 2), (35, .iaload, 1), (36, .iload_n 1, 1), (37, .if_icmp .ne 7, 3), (40, .iconst 1, 1), (41, .goto 4, 3), (44, .iconst 0, 1), (45, .istore 7, 2), (47, .iload 7, 2), (49, .ifCond .eq 13, 3), (52, .aload_n 0, 1), (53, .getfield 53, 3), (56, .iload 6, 2), (58, .iaload, 1), (59, .goto 4, 3), (62, .iconst 0, 1), (63, .istore 8, 2), (65, .iload 4, 2), (67, .iload 7, 2), (69, .ifCond .eq 26, 3), (72, .iload_n 2, 1), (73, .iload 8, 2), (75, .iconst (-1), 1)]
set_option maxRecDepth 100000 in
theorem dX11_fitting_0_g : dX11_fitting_0_l.all (fun x => decide (decode cX11_fitting x.1 = .ok x.2)) = true := by decide +kernel
noncomputable def dX11_fitting_76_l : List (Nat × Instr × Nat) := [(76, .ixor, 1), (77, .iand, 1), (78, .ifCond .ne 17, 3), (81, .iload_n 3, 1), (82, .iload 8, 2), (84, .iand, 1), (85, .ifCond .ne 10, 3), (88, .iconst 1, 1), (89, .iload 6, 2), (91, .ishl, 1), (92, .goto 4, 3), (95, .iconst 0, 1), (96, .ior, 1), (97, .istore 4, 2), (99, .iinc 5 1, 3), (102, .goto (-96), 3), (105, .iload 4, 2), (107, .ireturn, 1)]
set_option maxRecDepth 100000 in
theorem dX11_fitting_76_g : dX11_fitting_76_l.all (fun x => decide (decode cX11_fitting x.1 = .ok x.2)) = true := by decide +kernel
set_option maxRecDepth 100000 in
theorem gw_X11_fitting : wsX11_fitting.all goodWord = true := by decide +kernel
set_option maxRecDepth 100000 in
theorem ggX11_fitsOf_X11_fitting : GoodIn wsX11_fitsOf wsX11_fitting := goodIn_sub (sub_g [(9, [0, 0, 0, 0, 0, 0, 0, 0, 0, 0, 0, 0, 0, 0, 0, 0, 0, 0, 0, 0, 0, 0, 0, 0, 0, 0, 0, 0, 0, 0, 0, 0, 0, 0, 0, 0, 0, 0, 0, 0, 0, 0, 0, 0, 0, 0, 0, 0, 0, 0, 0, 0, 0, 0, 0, 0, 0, 0, 0, 0, 0, 0])] rfl) gw_X11_fitting
set_option maxRecDepth 100000 in
theorem gX11_fitsOf_X11_fitting : GoodIn wsX11_fitsOf (wsV RX11 350 RX11 yX11_fitting wsX11_fitting) := goodIn_app (goodIn_sub (sub_c (nq_m (n := 5) rfl) (sub_c (nq_m (n := 6) rfl) (sub_c (nq_m (n := 7) rfl) (sub_c (nq_m (n := 8) rfl) sub_n)))) (by decide +kernel)) ggX11_fitsOf_X11_fitting
noncomputable def dX11_fitsOf_0_l : List (Nat × Instr × Nat) := [(0, .aload_n 0, 1), (1, .aload_n 0, 1), (2, .getfield 47, 3), (5, .aload_n 0, 1), (6, .getfield 99, 3), (9, .iload_n 1, 1), (10, .iaload, 1), (11, .iaload, 1), (12, .aload_n 0, 1), (13, .getfield 102, 3), (16, .iload_n 1, 1), (17, .iaload, 1), (18, .aload_n 0, 1), (19, .getfield 105, 3), (22, .iload_n 1, 1), (23, .iaload, 1), (24, .invokevirtual 350, 3), (27, .ireturn, 1)]
set_option maxRecDepth 100000 in
theorem dX11_fitsOf_0_g : dX11_fitsOf_0_l.all (fun x => decide (decode cX11_fitsOf x.1 = .ok x.2)) = true := by decide +kernel
set_option maxRecDepth 100000 in
theorem gw_X11_isClaim : wsX11_isClaim.all goodWord = true := by decide +kernel
set_option maxRecDepth 100000 in
theorem ggX11_fits_X11_isClaim : GoodIn wsX11_fits wsX11_isClaim := goodIn_sub (sub_g [(5, [0, 0, 0]), (4, [4, 16, 0, 0, 0, 0, 0, 0, 0, 0, 0, 0, 0, 0, 0, 0, 0, 0, 0, 0, 0, 0, 0, 0, 0, 0, 0, 0, 0, 0, 0, 0, 0, 0, 0, 0, 0, 0, 0, 0, 0, 0, 0, 0, 0, 0, 0, 0, 0, 0, 0, 0, 0, 0, 0, 0, 0, 0, 0])] rfl) gw_X11_isClaim
set_option maxRecDepth 100000 in
theorem gX11_fits_X11_isClaim : GoodIn wsX11_fits (wsV RX11 353 RX11 yX11_isClaim wsX11_isClaim) := goodIn_app (goodIn_sub (sub_c (nq_m (n := 1) rfl) (sub_c (nq_m (n := 2) rfl) (sub_c (nq_m (n := 3) rfl) (sub_c (nq_m (n := 4) rfl) sub_n)))) (by decide +kernel)) ggX11_fits_X11_isClaim
set_option maxRecDepth 100000 in
theorem gw_X11_fitsOf : wsX11_fitsOf.all goodWord = true := by decide +kernel
set_option maxRecDepth 100000 in
theorem ggX11_fits_X11_fitsOf : GoodIn wsX11_fits wsX11_fitsOf := goodIn_sub (sub_g [(13, [0, 0, 0, 0, 0, 0, 0]), (4, [16, 0, 0, 0, 0, 0, 0, 0, 0, 0, 0, 0, 0, 0, 0, 0, 0, 0, 0, 0, 0, 0, 0, 0, 0, 0, 0, 0, 0, 0, 0, 0, 0, 0, 0, 0, 0, 0, 0, 0, 0, 0, 0, 0, 0, 0, 0, 0, 0, 0, 0, 0, 0, 0, 0, 0, 0, 0, 0, 0, 0, 0, 0])] rfl) gw_X11_fitsOf
set_option maxRecDepth 100000 in
theorem gX11_fits_X11_fitsOf : GoodIn wsX11_fits (wsV RX11 356 RX11 yX11_fitsOf wsX11_fitsOf) := goodIn_app (goodIn_sub (sub_c (nq_m (n := 10) rfl) (sub_c (nq_m (n := 11) rfl) (sub_c (nq_m (n := 12) rfl) (sub_c (nq_m (n := 4) rfl) sub_n)))) (by decide +kernel)) ggX11_fits_X11_fitsOf
noncomputable def dX11_fits_0_l : List (Nat × Instr × Nat) := [(0, .aload_n 0, 1), (1, .iload_n 1, 1), (2, .invokevirtual 353, 3), (5, .ifCond .eq 11, 3), (8, .aload_n 0, 1), (9, .iload_n 1, 1), (10, .invokevirtual 356, 3), (13, .goto 6, 3), (16, .sipush (-1001), 3), (19, .ireturn, 1)]
set_option maxRecDepth 100000 in
theorem dX11_fits_0_g : dX11_fits_0_l.all (fun x => decide (decode cX11_fits x.1 = .ok x.2)) = true := by decide +kernel
set_option maxRecDepth 100000 in
theorem ggX11_waysWith_X11_fitsOf : GoodIn wsX11_waysWith wsX11_fitsOf := goodIn_sub (sub_g [(8, [0, 0, 0, 0, 0, 0, 0]), (7, [8, 0, 0, 0, 0, 0, 0, 0, 0, 0, 0, 0, 0, 0, 0, 0, 0, 0, 0, 0, 0, 0, 0, 0, 0, 0, 0, 0, 0, 0, 0, 0, 0, 0, 0, 0, 0, 0, 0, 0, 0, 0, 0, 0, 0, 0, 0, 0, 0, 0, 0, 0, 0, 0, 0, 0, 0, 0, 0, 0, 0, 0, 0])] rfl) gw_X11_fitsOf
set_option maxRecDepth 100000 in
theorem gX11_waysWith_X11_fitsOf : GoodIn wsX11_waysWith (wsV RX11 356 RX11 yX11_fitsOf wsX11_fitsOf) := goodIn_app (goodIn_sub (sub_c (nq_m (n := 4) rfl) (sub_c (nq_m (n := 5) rfl) (sub_c (nq_m (n := 6) rfl) (sub_c (nq_m (n := 7) rfl) sub_n)))) (by decide +kernel)) ggX11_waysWith_X11_fitsOf
noncomputable def dX11_waysWith_0_l : List (Nat × Instr × Nat) := [(0, .iconst 1, 1), (1, .aload_n 0, 1), (2, .getfield 238, 3), (5, .ishl, 1), (6, .iconst 1, 1), (7, .isub, 1), (8, .istore_n 3, 1), (9, .iconst 0, 1), (10, .istore 4, 2), (12, .iload 4, 2), (14, .iload_n 3, 1), (15, .if_icmp .gt 26, 3), (18, .aload_n 0, 1), (19, .getfield 108, 3), (22, .iload 4, 2), (24, .iload 4, 2), (26, .ifCond .ne 7, 3), (29, .lconst 1, 1), (30, .goto 4, 3), (33, .lconst 0, 1), (34, .lastore, 1), (35, .iinc 4 1, 3), (38, .goto (-26), 3), (41, .iconst 0, 1), (42, .istore 4, 2), (44, .iload 4, 2), (46, .aload_n 0, 1), (47, .getfield 227, 3), (50, .if_icmp .ge 146, 3), (53, .iload_n 3, 1), (54, .istore 5, 2), (56, .iload 5, 2), (58, .ifCond .lt 132, 3), (61, .iconst 0, 1), (62, .istore 6, 2), (64, .iload 6, 2), (66, .aload_n 0, 1), (67, .getfield 238, 3), (70, .if_icmp .ge 114, 3), (73, .iload 5, 2)]
set_option maxRecDepth 100000 in
theorem dX11_waysWith_0_g : dX11_waysWith_0_l.all (fun x => decide (decode cX11_waysWith x.1 = .ok x.2)) = true := by decide +kernel
noncomputable def dX11_waysWith_75_l : List (Nat × Instr × Nat) := [(75, .iload 6, 2), (77, .ishr, 1), (78, .iconst 1, 1), (79, .iand, 1), (80, .iconst 1, 1), (81, .if_icmp .ne 22, 3), (84, .aload_n 0, 1), (85, .iload 6, 2), (87, .invokevirtual 356, 3), (90, .iload 4, 2), (92, .ishr, 1), (93, .iconst 1, 1), (94, .iand, 1), (95, .iconst 1, 1), (96, .if_icmp .ne 7, 3), (99, .iconst 1, 1), (100, .goto 4, 3), (103, .iconst 0, 1), (104, .istore 7, 2), (106, .iload 7, 2), (108, .ifCond .eq 36, 3), (111, .iload_n 1, 1), (112, .ifCond .lt 28, 3), (115, .iload 6, 2), (117, .iload_n 1, 1), (118, .if_icmp .ne 7, 3), (121, .iconst 1, 1), (122, .goto 4, 3), (125, .iconst 0, 1), (126, .iload 4, 2), (128, .iload_n 2, 1), (129, .if_icmp .ne 7, 3), (132, .iconst 1, 1), (133, .goto 4, 3), (136, .iconst 0, 1), (137, .if_icmp .ne 7, 3), (140, .iconst 1, 1), (141, .goto 4, 3), (144, .iconst 0, 1), (145, .istore 7, 2)]
set_option maxRecDepth 100000 in
theorem dX11_waysWith_75_g : dX11_waysWith_75_l.all (fun x => decide (decode cX11_waysWith x.1 = .ok x.2)) = true := by decide +kernel
noncomputable def dX11_waysWith_147_l : List (Nat × Instr × Nat) := [(147, .aload_n 0, 1), (148, .getfield 108, 3), (151, .iload 5, 2), (153, .dup2, 1), (154, .laload, 1), (155, .iload 7, 2), (157, .ifCond .eq 18, 3), (160, .aload_n 0, 1), (161, .getfield 108, 3), (164, .iload 5, 2), (166, .iconst 1, 1), (167, .iload 6, 2), (169, .ishl, 1), (170, .ixor, 1), (171, .laload, 1), (172, .goto 4, 3), (175, .lconst 0, 1), (176, .ladd, 1), (177, .lastore, 1), (178, .iinc 6 1, 3), (181, .goto (-117), 3), (184, .iinc 5 (-1), 3), (187, .goto (-131), 3), (190, .iinc 4 1, 3), (193, .goto (-149), 3), (196, .aload_n 0, 1), (197, .getfield 108, 3), (200, .iload_n 3, 1), (201, .laload, 1), (202, .lreturn, 1)]
set_option maxRecDepth 100000 in
theorem dX11_waysWith_147_g : dX11_waysWith_147_l.all (fun x => decide (decode cX11_waysWith x.1 = .ok x.2)) = true := by decide +kernel
set_option maxRecDepth 100000 in
theorem gw_X11_waysWith : wsX11_waysWith.all goodWord = true := by decide +kernel
set_option maxRecDepth 100000 in
theorem ggX11_ways_X11_waysWith : GoodIn wsX11_ways wsX11_waysWith := goodIn_sub (sub_g [(5, [0, 0, 0, 0, 0, 0]), (4, [7, 0, 0, 0, 0, 0, 0, 0, 0, 0, 0, 0, 0, 0, 0, 0, 0, 0, 0, 0, 0, 0, 0, 0, 0, 0, 0, 0, 0, 0, 0, 0, 0, 0, 0, 0, 0, 0, 0, 0, 0, 0, 0, 0, 0, 0, 0, 0, 0, 0, 0, 0, 0, 0, 0, 0, 0, 0, 0, 0, 0, 0, 0, 0, 0, 0, 0, 0, 0, 0, 0])] rfl) gw_X11_waysWith
set_option maxRecDepth 100000 in
theorem gX11_ways_X11_waysWith : GoodIn wsX11_ways (wsV RX11 359 RX11 yX11_waysWith wsX11_waysWith) := goodIn_app (goodIn_sub (sub_c (nq_m (n := 1) rfl) (sub_c (nq_m (n := 2) rfl) (sub_c (nq_m (n := 3) rfl) (sub_c (nq_m (n := 4) rfl) sub_n)))) (by decide +kernel)) ggX11_ways_X11_waysWith
noncomputable def dX11_ways_0_l : List (Nat × Instr × Nat) := [(0, .aload_n 0, 1), (1, .iconst (-1), 1), (2, .iconst (-1), 1), (3, .invokevirtual 359, 3), (6, .lreturn, 1)]
set_option maxRecDepth 100000 in
theorem dX11_ways_0_g : dX11_ways_0_l.all (fun x => decide (decode cX11_ways x.1 = .ok x.2)) = true := by decide +kernel
set_option maxRecDepth 100000 in
theorem ggX11_sureOf_X11_waysWith : GoodIn wsX11_sureOf wsX11_waysWith := goodIn_sub (sub_g [(6, [0, 0]), (1, [7, 0, 0]), (5, [6, 0, 0, 0, 0, 0, 0, 0, 0, 0, 0, 0, 0, 0, 0, 0, 0, 0, 0, 0, 0, 0, 0, 0, 0, 0, 0, 0, 0, 0, 0, 0, 0, 0, 0, 0, 0, 0, 0, 0, 0, 0, 0, 0, 0, 0, 0, 0, 0, 0, 0, 0, 0, 0, 0, 0, 0, 0, 0, 0, 0, 0, 0, 0, 0, 0, 0, 0, 0, 0, 0])] rfl) gw_X11_waysWith
set_option maxRecDepth 100000 in
theorem gX11_sureOf_X11_waysWith : GoodIn wsX11_sureOf (wsV RX11 359 RX11 yX11_waysWith wsX11_waysWith) := goodIn_app (goodIn_sub (sub_c (nq_m (n := 2) rfl) (sub_c (nq_m (n := 3) rfl) (sub_c (nq_m (n := 4) rfl) (sub_c (nq_m (n := 5) rfl) sub_n)))) (by decide +kernel)) ggX11_sureOf_X11_waysWith
set_option maxRecDepth 100000 in
theorem ggX11_sureOf_X11_fitsOf : GoodIn wsX11_sureOf wsX11_fitsOf := goodIn_sub (sub_g [(12, [0, 0, 0, 0, 0, 0, 0]), (5, [14, 0, 0, 0, 0, 0, 0, 0, 0, 0, 0, 0, 0, 0, 0, 0, 0, 0, 0, 0, 0, 0, 0, 0, 0, 0, 0, 0, 0, 0, 0, 0, 0, 0, 0, 0, 0, 0, 0, 0, 0, 0, 0, 0, 0, 0, 0, 0, 0, 0, 0, 0, 0, 0, 0, 0, 0, 0, 0, 0, 0, 0, 0])] rfl) gw_X11_fitsOf
set_option maxRecDepth 100000 in
theorem gX11_sureOf_X11_fitsOf : GoodIn wsX11_sureOf (wsV RX11 356 RX11 yX11_fitsOf wsX11_fitsOf) := goodIn_app (goodIn_sub (sub_c (nq_m (n := 9) rfl) (sub_c (nq_m (n := 10) rfl) (sub_c (nq_m (n := 11) rfl) (sub_c (nq_m (n := 5) rfl) sub_n)))) (by decide +kernel)) ggX11_sureOf_X11_fitsOf
noncomputable def dX11_sureOf_0_l : List (Nat × Instr × Nat) := [(0, .aload_n 0, 1), (1, .iconst (-1), 1), (2, .iconst (-1), 1), (3, .invokevirtual 359, 3), (6, .lstore_n 2, 1), (7, .iconst (-1), 1), (8, .istore 4, 2), (10, .iconst 0, 1), (11, .istore 5, 2), (13, .iload 5, 2), (15, .aload_n 0, 1), (16, .getfield 227, 3), (19, .if_icmp .ge 62, 3), (22, .lload_n 2, 1), (23, .lconst 0, 1), (24, .lcmp, 1), (25, .ifCond .le 56, 3), (28, .aload_n 0, 1), (29, .iload_n 1, 1), (30, .invokevirtual 356, 3), (33, .iload 5, 2), (35, .ishr, 1), (36, .iconst 1, 1), (37, .iand, 1), (38, .iconst 1, 1), (39, .if_icmp .ne 19, 3), (42, .aload_n 0, 1), (43, .iload_n 1, 1), (44, .iload 5, 2), (46, .invokevirtual 359, 3), (49, .lload_n 2, 1), (50, .lcmp, 1), (51, .ifCond .ne 7, 3), (54, .iconst 1, 1), (55, .goto 4, 3), (58, .iconst 0, 1), (59, .istore 6, 2), (61, .iload 6, 2), (63, .ifCond .eq 8, 3), (66, .iload 5, 2)]
set_option maxRecDepth 100000 in
theorem dX11_sureOf_0_g : dX11_sureOf_0_l.all (fun x => decide (decode cX11_sureOf x.1 = .ok x.2)) = true := by decide +kernel
noncomputable def dX11_sureOf_68_l : List (Nat × Instr × Nat) := [(68, .goto 5, 3), (71, .iload 4, 2), (73, .istore 4, 2), (75, .iinc 5 1, 3), (78, .goto (-65), 3), (81, .iload 4, 2), (83, .ireturn, 1)]
set_option maxRecDepth 100000 in
theorem dX11_sureOf_68_g : dX11_sureOf_68_l.all (fun x => decide (decode cX11_sureOf x.1 = .ok x.2)) = true := by decide +kernel
set_option maxRecDepth 100000 in
theorem ggX11_sure_X11_isClaim : GoodIn wsX11_sure wsX11_isClaim := goodIn_sub (sub_g [(5, [0, 0, 0]), (4, [4, 26, 0, 0, 0, 0, 0, 0, 0, 0, 0, 0, 0, 0, 0, 0, 0, 0, 0, 0, 0, 0, 0, 0, 0, 0, 0, 0, 0, 0, 0, 0, 0, 0, 0, 0, 0, 0, 0, 0, 0, 0, 0, 0, 0, 0, 0, 0, 0, 0, 0, 0, 0, 0, 0, 0, 0, 0, 0])] rfl) gw_X11_isClaim
set_option maxRecDepth 100000 in
theorem gX11_sure_X11_isClaim : GoodIn wsX11_sure (wsV RX11 353 RX11 yX11_isClaim wsX11_isClaim) := goodIn_app (goodIn_sub (sub_c (nq_m (n := 1) rfl) (sub_c (nq_m (n := 2) rfl) (sub_c (nq_m (n := 3) rfl) (sub_c (nq_m (n := 4) rfl) sub_n)))) (by decide +kernel)) ggX11_sure_X11_isClaim
set_option maxRecDepth 100000 in
theorem gw_X11_sureOf : wsX11_sureOf.all goodWord = true := by decide +kernel
set_option maxRecDepth 100000 in
theorem ggX11_sure_X11_sureOf : GoodIn wsX11_sure wsX11_sureOf := goodIn_sub (sub_g [(13, [0, 0, 0, 0]), (4, [13]), (6, [12, 0, 0, 0, 0, 0, 0, 0, 0, 0, 0, 0, 0, 0, 0, 0, 0, 0, 0, 0, 0, 0, 0, 0, 0, 0, 0, 0, 0, 0, 0, 0, 0, 0, 0, 0, 0, 0, 0, 0, 0, 0, 0, 0, 0, 0, 0, 0, 0, 0, 0, 0, 0, 0, 0, 0, 0, 0, 0, 0, 0, 0, 0, 0, 0, 0, 0, 0, 0, 0, 0, 0, 0, 0, 0])] rfl) gw_X11_sureOf
set_option maxRecDepth 100000 in
theorem gX11_sure_X11_sureOf : GoodIn wsX11_sure (wsV RX11 363 RX11 yX11_sureOf wsX11_sureOf) := goodIn_app (goodIn_sub (sub_c (nq_m (n := 10) rfl) (sub_c (nq_m (n := 11) rfl) (sub_c (nq_m (n := 12) rfl) (sub_c (nq_m (n := 4) rfl) sub_n)))) (by decide +kernel)) ggX11_sure_X11_sureOf
noncomputable def dX11_sure_0_l : List (Nat × Instr × Nat) := [(0, .aload_n 0, 1), (1, .iload_n 1, 1), (2, .invokevirtual 353, 3), (5, .ifCond .eq 11, 3), (8, .aload_n 0, 1), (9, .iload_n 1, 1), (10, .invokevirtual 363, 3), (13, .goto 6, 3), (16, .sipush (-1001), 3), (19, .ireturn, 1)]
set_option maxRecDepth 100000 in
theorem dX11_sure_0_g : dX11_sure_0_l.all (fun x => decide (decode cX11_sure x.1 = .ok x.2)) = true := by decide +kernel
set_option maxRecDepth 100000 in
theorem ggX11_grant_X11_isClaim : GoodIn wsX11_grant wsX11_isClaim := goodIn_sub (sub_g [(11, []), (4, [7, 0]), (10, [3, 26, 0, 0, 0, 0, 0, 0, 0, 0, 0, 0, 0, 0, 0, 0, 0, 0, 0, 0, 0, 0, 0, 0, 0, 0, 0, 0, 0, 0, 0, 0, 0, 0, 0, 0, 0, 0, 0, 0, 0, 0, 0, 0, 0, 0, 0, 0, 0, 0, 0, 0, 0, 0, 0, 0, 0, 0, 0])] rfl) gw_X11_isClaim
set_option maxRecDepth 100000 in
theorem gX11_grant_X11_isClaim : GoodIn wsX11_grant (wsV RX11 353 RX11 yX11_isClaim wsX11_isClaim) := goodIn_app (goodIn_sub (sub_c (nq_m (n := 7) rfl) (sub_c (nq_m (n := 8) rfl) (sub_c (nq_m (n := 9) rfl) (sub_c (nq_m (n := 10) rfl) sub_n)))) (by decide +kernel)) ggX11_grant_X11_isClaim
set_option maxRecDepth 100000 in
theorem ggX11_grant_X11_sureOf : GoodIn wsX11_grant wsX11_sureOf := goodIn_sub (sub_g [(18, [0, 0, 0, 0]), (10, [12]), (4, [19, 0, 0, 0, 0, 0]), (2, [2, 0, 23, 0, 0, 0, 0]), (3, [31, 0, 4, 0, 0, 0, 0, 0, 0, 0, 0, 0, 0, 0, 0, 0, 0, 0, 0, 0, 0, 0, 0, 0, 0, 0, 0, 0, 0, 0, 0, 0, 0, 0, 0, 0, 0, 0, 0, 0, 0, 0, 0, 0, 0, 0, 0, 0, 0, 0, 0, 0, 0, 0, 0, 0, 0, 0, 0, 0])] rfl) gw_X11_sureOf
set_option maxRecDepth 100000 in
theorem gX11_grant_X11_sureOf : GoodIn wsX11_grant (wsV RX11 363 RX11 yX11_sureOf wsX11_sureOf) := goodIn_app (goodIn_sub (sub_c (nq_m (n := 15) rfl) (sub_c (nq_m (n := 16) rfl) (sub_c (nq_m (n := 17) rfl) (sub_c (nq_m (n := 10) rfl) sub_n)))) (by decide +kernel)) ggX11_grant_X11_sureOf
set_option maxRecDepth 100000 in
theorem ggX11_grant_X11_pegOf : GoodIn wsX11_grant wsX11_pegOf := goodIn_sub (sub_g [(40, []), (34, []), (3, [37, 0, 0, 0, 0, 0, 0, 0, 0, 0, 0, 0, 0, 0, 0, 0, 0, 0, 0, 0, 0, 0, 0, 0, 0, 0, 0, 0, 0, 0, 0, 0, 0, 0, 0, 0, 0, 0, 0, 0, 0, 0, 0, 0, 0, 0, 0, 0, 0, 0, 0, 0, 0, 0, 0, 0, 0, 0])] rfl) gw_X11_pegOf
set_option maxRecDepth 100000 in
theorem gX11_grant_X11_pegOf : GoodIn wsX11_grant (wsV RX11 258 RX11 yX11_pegOf wsX11_pegOf) := goodIn_app (goodIn_sub (sub_c (nq_m (n := 37) rfl) (sub_c (nq_m (n := 38) rfl) (sub_c (nq_m (n := 39) rfl) (sub_c (nq_m (n := 10) rfl) sub_n)))) (by decide +kernel)) ggX11_grant_X11_pegOf
noncomputable def dX11_grant_0_l : List (Nat × Instr × Nat) := [(0, .aload_n 0, 1), (1, .iload_n 1, 1), (2, .invokevirtual 353, 3), (5, .ifCond .ne 7, 3), (8, .sipush (-1001), 3), (11, .ireturn, 1), (12, .aload_n 0, 1), (13, .iload_n 1, 1), (14, .invokevirtual 363, 3), (17, .istore_n 2, 1), (18, .iload_n 2, 1), (19, .ifCond .ge 7, 3), (22, .sipush (-1003), 3), (25, .ireturn, 1), (26, .aload_n 0, 1), (27, .getfield 59, 3), (30, .aload_n 0, 1), (31, .getfield 99, 3), (34, .iload_n 1, 1), (35, .iaload, 1), (36, .iload_n 2, 1), (37, .iastore, 1), (38, .aload_n 0, 1), (39, .getfield 41, 3), (42, .aload_n 0, 1), (43, .iload_n 2, 1), (44, .invokevirtual 258, 3), (47, .iconst (-1), 1), (48, .iastore, 1), (49, .iload_n 1, 1), (50, .istore_n 3, 1), (51, .iload_n 3, 1), (52, .iconst 1, 1), (53, .iadd, 1), (54, .aload_n 0, 1), (55, .getfield 238, 3), (58, .if_icmp .ge 51, 3), (61, .aload_n 0, 1), (62, .getfield 99, 3), (65, .iload_n 3, 1)]
set_option maxRecDepth 100000 in
theorem dX11_grant_0_g : dX11_grant_0_l.all (fun x => decide (decode cX11_grant x.1 = .ok x.2)) = true := by decide +kernel
noncomputable def dX11_grant_66_l : List (Nat × Instr × Nat) := [(66, .aload_n 0, 1), (67, .getfield 99, 3), (70, .iload_n 3, 1), (71, .iconst 1, 1), (72, .iadd, 1), (73, .iaload, 1), (74, .iastore, 1), (75, .aload_n 0, 1), (76, .getfield 102, 3), (79, .iload_n 3, 1), (80, .aload_n 0, 1), (81, .getfield 102, 3), (84, .iload_n 3, 1), (85, .iconst 1, 1), (86, .iadd, 1), (87, .iaload, 1), (88, .iastore, 1), (89, .aload_n 0, 1), (90, .getfield 105, 3), (93, .iload_n 3, 1), (94, .aload_n 0, 1), (95, .getfield 105, 3), (98, .iload_n 3, 1), (99, .iconst 1, 1), (100, .iadd, 1), (101, .iaload, 1), (102, .iastore, 1), (103, .iinc 3 1, 3), (106, .goto (-55), 3), (109, .aload_n 0, 1), (110, .dup, 1), (111, .getfield 238, 3), (114, .iconst 1, 1), (115, .isub, 1), (116, .putfield 238, 3), (119, .iload_n 2, 1), (120, .ireturn, 1)]
set_option maxRecDepth 100000 in
theorem dX11_grant_66_g : dX11_grant_66_l.all (fun x => decide (decode cX11_grant x.1 = .ok x.2)) = true := by decide +kernel
set_option maxRecDepth 100000 in
theorem ggX11_apart_X11_isGuest : GoodIn wsX11_apart wsX11_isGuest := goodIn_sub (sub_g [(6, [0, 0, 0]), (5, [4, 0, 0, 0, 0, 0, 0, 0, 0, 0, 0, 0, 0, 0, 0, 0, 0, 0, 0, 0, 0, 0, 0, 0, 0, 0, 0, 0, 0, 0, 0, 0, 0, 0, 0, 0, 0, 0, 0, 0, 0, 0, 0, 0, 0, 0, 0, 0, 0, 0, 0, 0, 0, 0, 0, 0, 0, 0, 0])] rfl) gw_X11_isGuest
set_option maxRecDepth 100000 in
theorem gX11_apart_X11_isGuest : GoodIn wsX11_apart (wsV RX11 255 RX11 yX11_isGuest wsX11_isGuest) := goodIn_app (goodIn_sub (sub_c (nq_m (n := 2) rfl) (sub_c (nq_m (n := 3) rfl) (sub_c (nq_m (n := 4) rfl) (sub_c (nq_m (n := 5) rfl) sub_n)))) (by decide +kernel)) ggX11_apart_X11_isGuest
noncomputable def dX11_apart_0_l : List (Nat × Instr × Nat) := [(0, .aload_n 0, 1), (1, .iload_n 1, 1), (2, .invokevirtual 255, 3), (5, .ifCond .eq 27, 3), (8, .aload_n 0, 1), (9, .iload_n 2, 1), (10, .invokevirtual 255, 3), (13, .ifCond .eq 19, 3), (16, .aload_n 0, 1), (17, .getfield 53, 3), (20, .iload_n 1, 1), (21, .iaload, 1), (22, .aload_n 0, 1), (23, .getfield 53, 3), (26, .iload_n 2, 1), (27, .iaload, 1), (28, .ixor, 1), (29, .goto 6, 3), (32, .sipush (-1001), 3), (35, .ireturn, 1)]
set_option maxRecDepth 100000 in
theorem dX11_apart_0_g : dX11_apart_0_l.all (fun x => decide (decode cX11_apart x.1 = .ok x.2)) = true := by decide +kernel
set_option maxRecDepth 100000 in
theorem ggX11_asks_X11_isClaim : GoodIn wsX11_asks wsX11_isClaim := goodIn_sub (sub_g [(10, [0, 0, 0]), (9, [4, 10, 0, 0, 0, 0, 0, 0, 0, 0, 0, 0, 0, 0, 0, 0, 0, 0, 0, 0, 0, 0, 0, 0, 0, 0, 0, 0, 0, 0, 0, 0, 0, 0, 0, 0, 0, 0, 0, 0, 0, 0, 0, 0, 0, 0, 0, 0, 0, 0, 0, 0, 0, 0, 0, 0, 0, 0, 0])] rfl) gw_X11_isClaim
set_option maxRecDepth 100000 in
theorem gX11_asks_X11_isClaim : GoodIn wsX11_asks (wsV RX11 353 RX11 yX11_isClaim wsX11_isClaim) := goodIn_app (goodIn_sub (sub_c (nq_m (n := 6) rfl) (sub_c (nq_m (n := 7) rfl) (sub_c (nq_m (n := 8) rfl) (sub_c (nq_m (n := 9) rfl) sub_n)))) (by decide +kernel)) ggX11_asks_X11_isClaim
set_option maxRecDepth 100000 in
theorem ggX11_asks_X11_fitting : GoodIn wsX11_asks wsX11_fitting := goodIn_sub (sub_g [(18, [0, 0, 0]), (4, [20, 0, 0, 0, 0, 0, 0, 0, 0, 0, 0, 0, 0, 0, 0, 0, 0, 0, 0, 0, 0, 0, 0, 0, 0, 0, 0, 0, 0, 0, 0, 0, 0, 0, 0, 0, 0, 0, 0, 0, 0, 0, 0, 0, 0, 0, 0, 0, 0, 0, 0, 0, 0, 0, 0, 0, 0, 0])] rfl) gw_X11_fitting
set_option maxRecDepth 100000 in
theorem gX11_asks_X11_fitting : GoodIn wsX11_asks (wsV RX11 350 RX11 yX11_fitting wsX11_fitting) := goodIn_app (goodIn_sub (sub_c (nq_m (n := 15) rfl) (sub_c (nq_m (n := 16) rfl) (sub_c (nq_m (n := 17) rfl) (sub_c (nq_m (n := 9) rfl) sub_n)))) (by decide +kernel)) ggX11_asks_X11_fitting
set_option maxRecDepth 100000 in
theorem ggX11_asks_X11_bits : GoodIn wsX11_asks wsX11_bits := goodIn_sub (sub_c (nq_m (n := 24) rfl) sub_n) gw_X11_bits
set_option maxRecDepth 100000 in
theorem gX11_asks_X11_bits : GoodIn wsX11_asks (va_wsS RX11 341 yX11_bits wsX11_bits) := goodIn_app (goodIn_sub (sub_c (nq_m (n := 22) rfl) (sub_c (nq_m (n := 23) rfl) (sub_c (nq_m (n := 9) rfl) sub_n))) (by decide +kernel)) ggX11_asks_X11_bits
noncomputable def dX11_asks_0_l : List (Nat × Instr × Nat) := [(0, .aload_n 0, 1), (1, .iload_n 1, 1), (2, .invokevirtual 353, 3), (5, .ifCond .ne 7, 3), (8, .sipush (-1001), 3), (11, .ireturn, 1), (12, .aload_n 0, 1), (13, .getfield 99, 3), (16, .iload_n 1, 1), (17, .iaload, 1), (18, .istore_n 2, 1), (19, .iconst (-1), 1), (20, .istore_n 3, 1), (21, .iconst 0, 1), (22, .istore 4, 2), (24, .iload 4, 2), (26, .sipush 256, 3), (29, .if_icmp .ge 87, 3), (32, .aload_n 0, 1), (33, .aload_n 0, 1), (34, .getfield 47, 3), (37, .iload_n 2, 1), (38, .iaload, 1), (39, .aload_n 0, 1), (40, .getfield 102, 3), (43, .iload_n 1, 1), (44, .iaload, 1), (45, .aload_n 0, 1), (46, .getfield 53, 3), (49, .iload_n 2, 1), (50, .iaload, 1), (51, .iload 4, 2), (53, .iand, 1), (54, .ior, 1), (55, .aload_n 0, 1), (56, .getfield 105, 3), (59, .iload_n 1, 1), (60, .iaload, 1), (61, .aload_n 0, 1), (62, .getfield 53, 3)]
set_option maxRecDepth 100000 in
theorem dX11_asks_0_g : dX11_asks_0_l.all (fun x => decide (decode cX11_asks x.1 = .ok x.2)) = true := by decide +kernel
noncomputable def dX11_asks_65_l : List (Nat × Instr × Nat) := [(65, .iload_n 2, 1), (66, .iaload, 1), (67, .iconst (-1), 1), (68, .ixor, 1), (69, .iload 4, 2), (71, .iand, 1), (72, .ior, 1), (73, .invokevirtual 350, 3), (76, .istore 5, 2), (78, .iload 5, 2), (80, .invokestatic 341, 3), (83, .iconst 1, 1), (84, .if_icmp .ne 24, 3), (87, .iload_n 3, 1), (88, .ifCond .lt 15, 3), (91, .iload 4, 2), (93, .invokestatic 341, 3), (96, .iload_n 3, 1), (97, .invokestatic 341, 3), (100, .if_icmp .ge 8, 3), (103, .iload 4, 2), (105, .goto 4, 3), (108, .iload_n 3, 1), (109, .istore_n 3, 1), (110, .iinc 4 1, 3), (113, .goto (-89), 3), (116, .iload_n 3, 1), (117, .ireturn, 1)]
set_option maxRecDepth 100000 in
theorem dX11_asks_65_g : dX11_asks_65_l.all (fun x => decide (decode cX11_asks x.1 = .ok x.2)) = true := by decide +kernel
noncomputable def dX11_note_0_l : List (Nat × Instr × Nat) := [(0, .aload_n 0, 1), (1, .getfield 112, 3), (4, .aload_n 0, 1), (5, .getfield 366, 3), (8, .iload_n 1, 1), (9, .iastore, 1), (10, .aload_n 0, 1), (11, .dup, 1), (12, .getfield 366, 3), (15, .iconst 1, 1), (16, .iadd, 1), (17, .putfield 366, 3), (20, .return_, 1)]
set_option maxRecDepth 100000 in
theorem dX11_note_0_g : dX11_note_0_l.all (fun x => decide (decode cX11_note x.1 = .ok x.2)) = true := by decide +kernel
noncomputable def dX11_noted_0_l : List (Nat × Instr × Nat) := [(0, .aload_n 0, 1), (1, .dup, 1), (2, .getfield 366, 3), (5, .iconst 1, 1), (6, .iadd, 1), (7, .putfield 366, 3), (10, .aload_n 0, 1), (11, .getfield 112, 3), (14, .aload_n 0, 1), (15, .getfield 366, 3), (18, .iconst 1, 1), (19, .isub, 1), (20, .iaload, 1), (21, .ireturn, 1)]
set_option maxRecDepth 100000 in
theorem dX11_noted_0_g : dX11_noted_0_l.all (fun x => decide (decode cX11_noted x.1 = .ok x.2)) = true := by decide +kernel
set_option maxRecDepth 100000 in
theorem ggX11_keep_X11_in : GoodIn wsX11_keep wsX11_in := goodIn_sub (sub_c (nq_m (n := 26) rfl) sub_n) gw_X11_in
set_option maxRecDepth 100000 in
theorem gX11_keep_X11_in : GoodIn wsX11_keep (va_wsS RX11 126 yX11_in wsX11_in) := goodIn_app (goodIn_sub (sub_c (nq_m (n := 23) rfl) (sub_c (nq_m (n := 24) rfl) (sub_c (nq_m (n := 25) rfl) sub_n))) (by decide +kernel)) ggX11_keep_X11_in
set_option maxRecDepth 100000 in
theorem gw_X11_note : wsX11_note.all goodWord = true := by decide +kernel
set_option maxRecDepth 100000 in
theorem ggX11_keep_X11_note : GoodIn wsX11_keep wsX11_note := goodIn_sub (sub_g [(30, [0]), (1, [30, 0, 0, 0, 0, 0, 0, 0, 0, 0, 0, 0, 0, 0, 0, 0, 0, 0, 0, 0, 0, 0, 0, 0, 0, 0, 0, 0, 0, 0, 0, 0, 0, 0, 0, 0, 0, 0, 0, 0, 0, 0, 0, 0, 0, 0, 0, 0, 0, 0, 0, 0, 0, 0, 0, 0, 0, 0])] rfl) gw_X11_note
set_option maxRecDepth 100000 in
theorem gX11_keep_X11_note : GoodIn wsX11_keep (wsV RX11 369 RX11 yX11_note wsX11_note) := goodIn_app (goodIn_sub (sub_c (nq_m (n := 27) rfl) (sub_c (nq_m (n := 28) rfl) (sub_c (nq_m (n := 29) rfl) (sub_c (nq_m (n := 25) rfl) sub_n)))) (by decide +kernel)) ggX11_keep_X11_note
noncomputable def dX11_keep_0_l : List (Nat × Instr × Nat) := [(0, .iload_n 1, 1), (1, .i2l, 1), (2, .lconst 0, 1), (3, .lconst 1, 1), (4, .invokestatic 126, 3), (7, .ifCond .ne 7, 3), (10, .sipush (-1001), 3), (13, .ireturn, 1), (14, .aload_n 0, 1), (15, .sipush 900, 3), (18, .iload_n 1, 1), (19, .imul, 1), (20, .putfield 366, 3), (23, .aload_n 0, 1), (24, .aload_n 0, 1), (25, .getfield 224, 3), (28, .invokevirtual 369, 3), (31, .aload_n 0, 1), (32, .aload_n 0, 1), (33, .getfield 227, 3), (36, .invokevirtual 369, 3), (39, .aload_n 0, 1), (40, .aload_n 0, 1), (41, .getfield 215, 3), (44, .invokevirtual 369, 3), (47, .aload_n 0, 1), (48, .aload_n 0, 1), (49, .getfield 238, 3), (52, .invokevirtual 369, 3), (55, .aload_n 0, 1), (56, .aload_n 0, 1), (57, .getfield 241, 3), (60, .invokevirtual 369, 3), (63, .iconst 0, 1), (64, .istore_n 2, 1), (65, .iload_n 2, 1), (66, .bipush 16, 2), (68, .if_icmp .ge 79, 3), (71, .aload_n 0, 1), (72, .aload_n 0, 1)]
set_option maxRecDepth 100000 in
theorem dX11_keep_0_g : dX11_keep_0_l.all (fun x => decide (decode cX11_keep x.1 = .ok x.2)) = true := by decide +kernel
noncomputable def dX11_keep_73_l : List (Nat × Instr × Nat) := [(73, .getfield 44, 3), (76, .iload_n 2, 1), (77, .iaload, 1), (78, .invokevirtual 369, 3), (81, .aload_n 0, 1), (82, .aload_n 0, 1), (83, .getfield 47, 3), (86, .iload_n 2, 1), (87, .iaload, 1), (88, .invokevirtual 369, 3), (91, .aload_n 0, 1), (92, .aload_n 0, 1), (93, .getfield 50, 3), (96, .iload_n 2, 1), (97, .iaload, 1), (98, .invokevirtual 369, 3), (101, .aload_n 0, 1), (102, .aload_n 0, 1), (103, .getfield 53, 3), (106, .iload_n 2, 1), (107, .iaload, 1), (108, .invokevirtual 369, 3), (111, .aload_n 0, 1), (112, .aload_n 0, 1), (113, .getfield 56, 3), (116, .iload_n 2, 1), (117, .iaload, 1), (118, .invokevirtual 369, 3), (121, .aload_n 0, 1), (122, .aload_n 0, 1), (123, .getfield 59, 3), (126, .iload_n 2, 1), (127, .iaload, 1), (128, .invokevirtual 369, 3), (131, .aload_n 0, 1), (132, .aload_n 0, 1), (133, .getfield 62, 3), (136, .iload_n 2, 1), (137, .iaload, 1), (138, .invokevirtual 369, 3)]
set_option maxRecDepth 100000 in
theorem dX11_keep_73_g : dX11_keep_73_l.all (fun x => decide (decode cX11_keep x.1 = .ok x.2)) = true := by decide +kernel
noncomputable def dX11_keep_141_l : List (Nat × Instr × Nat) := [(141, .iinc 2 1, 3), (144, .goto (-79), 3), (147, .iconst 0, 1), (148, .istore_n 2, 1), (149, .iload_n 2, 1), (150, .bipush 24, 2), (152, .if_icmp .ge 19, 3), (155, .aload_n 0, 1), (156, .aload_n 0, 1), (157, .getfield 41, 3), (160, .iload_n 2, 1), (161, .iaload, 1), (162, .invokevirtual 369, 3), (165, .iinc 2 1, 3), (168, .goto (-19), 3), (171, .iconst 0, 1), (172, .istore_n 2, 1), (173, .iload_n 2, 1), (174, .sipush 420, 3), (177, .if_icmp .ge 19, 3), (180, .aload_n 0, 1), (181, .aload_n 0, 1), (182, .getfield 84, 3), (185, .iload_n 2, 1), (186, .iaload, 1), (187, .invokevirtual 369, 3), (190, .iinc 2 1, 3), (193, .goto (-20), 3), (196, .iconst 0, 1), (197, .istore_n 2, 1), (198, .iload_n 2, 1), (199, .bipush 6, 2), (201, .if_icmp .ge 39, 3), (204, .aload_n 0, 1), (205, .aload_n 0, 1), (206, .getfield 99, 3), (209, .iload_n 2, 1), (210, .iaload, 1), (211, .invokevirtual 369, 3), (214, .aload_n 0, 1)]
set_option maxRecDepth 100000 in
theorem dX11_keep_141_g : dX11_keep_141_l.all (fun x => decide (decode cX11_keep x.1 = .ok x.2)) = true := by decide +kernel
noncomputable def dX11_keep_215_l : List (Nat × Instr × Nat) := [(215, .aload_n 0, 1), (216, .getfield 102, 3), (219, .iload_n 2, 1), (220, .iaload, 1), (221, .invokevirtual 369, 3), (224, .aload_n 0, 1), (225, .aload_n 0, 1), (226, .getfield 105, 3), (229, .iload_n 2, 1), (230, .iaload, 1), (231, .invokevirtual 369, 3), (234, .iinc 2 1, 3), (237, .goto (-39), 3), (240, .iconst 0, 1), (241, .istore_n 2, 1), (242, .iload_n 2, 1), (243, .bipush 60, 2), (245, .if_icmp .ge 69, 3), (248, .aload_n 0, 1), (249, .aload_n 0, 1), (250, .getfield 75, 3), (253, .iload_n 2, 1), (254, .iaload, 1), (255, .invokevirtual 369, 3), (258, .aload_n 0, 1), (259, .aload_n 0, 1), (260, .getfield 78, 3), (263, .iload_n 2, 1), (264, .iaload, 1), (265, .invokevirtual 369, 3), (268, .aload_n 0, 1), (269, .aload_n 0, 1), (270, .getfield 81, 3), (273, .iconst 3, 1), (274, .iload_n 2, 1), (275, .imul, 1), (276, .iaload, 1), (277, .invokevirtual 369, 3), (280, .aload_n 0, 1), (281, .aload_n 0, 1)]
set_option maxRecDepth 100000 in
theorem dX11_keep_215_g : dX11_keep_215_l.all (fun x => decide (decode cX11_keep x.1 = .ok x.2)) = true := by decide +kernel
noncomputable def dX11_keep_282_l : List (Nat × Instr × Nat) := [(282, .getfield 81, 3), (285, .iconst 3, 1), (286, .iload_n 2, 1), (287, .imul, 1), (288, .iconst 1, 1), (289, .iadd, 1), (290, .iaload, 1), (291, .invokevirtual 369, 3), (294, .aload_n 0, 1), (295, .aload_n 0, 1), (296, .getfield 81, 3), (299, .iconst 3, 1), (300, .iload_n 2, 1), (301, .imul, 1), (302, .iconst 2, 1), (303, .iadd, 1), (304, .iaload, 1), (305, .invokevirtual 369, 3), (308, .iinc 2 1, 3), (311, .goto (-69), 3), (314, .aload_n 0, 1), (315, .getfield 115, 3), (318, .iload_n 1, 1), (319, .iconst 1, 1), (320, .bastore, 1), (321, .iconst 1, 1), (322, .ireturn, 1)]
set_option maxRecDepth 100000 in
theorem dX11_keep_282_g : dX11_keep_282_l.all (fun x => decide (decode cX11_keep x.1 = .ok x.2)) = true := by decide +kernel
set_option maxRecDepth 100000 in
theorem ggX11_goBack_X11_in : GoodIn wsX11_goBack wsX11_in := goodIn_sub (sub_c (nq_m (n := 26) rfl) sub_n) gw_X11_in
set_option maxRecDepth 100000 in
theorem gX11_goBack_X11_in : GoodIn wsX11_goBack (va_wsS RX11 126 yX11_in wsX11_in) := goodIn_app (goodIn_sub (sub_c (nq_m (n := 23) rfl) (sub_c (nq_m (n := 24) rfl) (sub_c (nq_m (n := 25) rfl) sub_n))) (by decide +kernel)) ggX11_goBack_X11_in
set_option maxRecDepth 100000 in
theorem gw_X11_noted : wsX11_noted.all goodWord = true := by decide +kernel
set_option maxRecDepth 100000 in
theorem ggX11_goBack_X11_noted : GoodIn wsX11_goBack wsX11_noted := goodIn_sub (sub_g [(30, []), (1, [29, 0, 0, 0, 0, 0, 0, 0, 0, 0, 0, 0, 0, 0, 0, 0, 0, 0, 0, 0, 0, 0, 0, 0, 0, 0, 0, 0, 0, 0, 0, 0, 0, 0, 0, 0, 0, 0, 0, 0, 0, 0, 0, 0, 0, 0, 0, 0, 0, 0, 0, 0, 0, 0, 0, 0, 0, 0, 0])] rfl) gw_X11_noted
set_option maxRecDepth 100000 in
theorem gX11_goBack_X11_noted : GoodIn wsX11_goBack (wsV RX11 372 RX11 yX11_noted wsX11_noted) := goodIn_app (goodIn_sub (sub_c (nq_m (n := 27) rfl) (sub_c (nq_m (n := 28) rfl) (sub_c (nq_m (n := 29) rfl) (sub_c (nq_m (n := 25) rfl) sub_n)))) (by decide +kernel)) ggX11_goBack_X11_noted
noncomputable def dX11_goBack_0_l : List (Nat × Instr × Nat) := [(0, .iload_n 1, 1), (1, .i2l, 1), (2, .lconst 0, 1), (3, .lconst 1, 1), (4, .invokestatic 126, 3), (7, .ifCond .ne 7, 3), (10, .sipush (-1001), 3), (13, .ireturn, 1), (14, .aload_n 0, 1), (15, .sipush 900, 3), (18, .iload_n 1, 1), (19, .imul, 1), (20, .putfield 366, 3), (23, .aload_n 0, 1), (24, .getfield 115, 3), (27, .iload_n 1, 1), (28, .baload, 1), (29, .ifCond .eq 14, 3), (32, .aload_n 0, 1), (33, .invokevirtual 372, 3), (36, .aload_n 0, 1), (37, .getfield 224, 3), (40, .if_icmp .eq 7, 3), (43, .sipush (-1003), 3), (46, .ireturn, 1), (47, .aload_n 0, 1), (48, .aload_n 0, 1), (49, .invokevirtual 372, 3), (52, .putfield 227, 3), (55, .aload_n 0, 1), (56, .aload_n 0, 1), (57, .invokevirtual 372, 3), (60, .putfield 215, 3), (63, .aload_n 0, 1), (64, .aload_n 0, 1), (65, .invokevirtual 372, 3), (68, .putfield 238, 3), (71, .aload_n 0, 1), (72, .aload_n 0, 1), (73, .invokevirtual 372, 3)]
set_option maxRecDepth 100000 in
theorem dX11_goBack_0_g : dX11_goBack_0_l.all (fun x => decide (decode cX11_goBack x.1 = .ok x.2)) = true := by decide +kernel
noncomputable def dX11_goBack_76_l : List (Nat × Instr × Nat) := [(76, .putfield 241, 3), (79, .iconst 0, 1), (80, .istore_n 2, 1), (81, .iload_n 2, 1), (82, .bipush 16, 2), (84, .if_icmp .ge 79, 3), (87, .aload_n 0, 1), (88, .getfield 44, 3), (91, .iload_n 2, 1), (92, .aload_n 0, 1), (93, .invokevirtual 372, 3), (96, .iastore, 1), (97, .aload_n 0, 1), (98, .getfield 47, 3), (101, .iload_n 2, 1), (102, .aload_n 0, 1), (103, .invokevirtual 372, 3), (106, .iastore, 1), (107, .aload_n 0, 1), (108, .getfield 50, 3), (111, .iload_n 2, 1), (112, .aload_n 0, 1), (113, .invokevirtual 372, 3), (116, .iastore, 1), (117, .aload_n 0, 1), (118, .getfield 53, 3), (121, .iload_n 2, 1), (122, .aload_n 0, 1), (123, .invokevirtual 372, 3), (126, .iastore, 1), (127, .aload_n 0, 1), (128, .getfield 56, 3), (131, .iload_n 2, 1), (132, .aload_n 0, 1), (133, .invokevirtual 372, 3), (136, .iastore, 1), (137, .aload_n 0, 1), (138, .getfield 59, 3), (141, .iload_n 2, 1), (142, .aload_n 0, 1)]
set_option maxRecDepth 100000 in
theorem dX11_goBack_76_g : dX11_goBack_76_l.all (fun x => decide (decode cX11_goBack x.1 = .ok x.2)) = true := by decide +kernel
noncomputable def dX11_goBack_143_l : List (Nat × Instr × Nat) := [(143, .invokevirtual 372, 3), (146, .iastore, 1), (147, .aload_n 0, 1), (148, .getfield 62, 3), (151, .iload_n 2, 1), (152, .aload_n 0, 1), (153, .invokevirtual 372, 3), (156, .iastore, 1), (157, .iinc 2 1, 3), (160, .goto (-79), 3), (163, .iconst 0, 1), (164, .istore_n 2, 1), (165, .iload_n 2, 1), (166, .bipush 24, 2), (168, .if_icmp .ge 19, 3), (171, .aload_n 0, 1), (172, .getfield 41, 3), (175, .iload_n 2, 1), (176, .aload_n 0, 1), (177, .invokevirtual 372, 3), (180, .iastore, 1), (181, .iinc 2 1, 3), (184, .goto (-19), 3), (187, .iconst 0, 1), (188, .istore_n 2, 1), (189, .iload_n 2, 1), (190, .sipush 420, 3), (193, .if_icmp .ge 19, 3), (196, .aload_n 0, 1), (197, .getfield 84, 3), (200, .iload_n 2, 1), (201, .aload_n 0, 1), (202, .invokevirtual 372, 3), (205, .iastore, 1), (206, .iinc 2 1, 3), (209, .goto (-20), 3), (212, .iconst 0, 1), (213, .istore_n 2, 1), (214, .iload_n 2, 1), (215, .bipush 6, 2)]
set_option maxRecDepth 100000 in
theorem dX11_goBack_143_g : dX11_goBack_143_l.all (fun x => decide (decode cX11_goBack x.1 = .ok x.2)) = true := by decide +kernel
noncomputable def dX11_goBack_217_l : List (Nat × Instr × Nat) := [(217, .if_icmp .ge 39, 3), (220, .aload_n 0, 1), (221, .getfield 99, 3), (224, .iload_n 2, 1), (225, .aload_n 0, 1), (226, .invokevirtual 372, 3), (229, .iastore, 1), (230, .aload_n 0, 1), (231, .getfield 102, 3), (234, .iload_n 2, 1), (235, .aload_n 0, 1), (236, .invokevirtual 372, 3), (239, .iastore, 1), (240, .aload_n 0, 1), (241, .getfield 105, 3), (244, .iload_n 2, 1), (245, .aload_n 0, 1), (246, .invokevirtual 372, 3), (249, .iastore, 1), (250, .iinc 2 1, 3), (253, .goto (-39), 3), (256, .iconst 0, 1), (257, .istore_n 2, 1), (258, .iload_n 2, 1), (259, .bipush 60, 2), (261, .if_icmp .ge 69, 3), (264, .aload_n 0, 1), (265, .getfield 75, 3), (268, .iload_n 2, 1), (269, .aload_n 0, 1), (270, .invokevirtual 372, 3), (273, .iastore, 1), (274, .aload_n 0, 1), (275, .getfield 78, 3), (278, .iload_n 2, 1), (279, .aload_n 0, 1), (280, .invokevirtual 372, 3), (283, .iastore, 1), (284, .aload_n 0, 1), (285, .getfield 81, 3)]
set_option maxRecDepth 100000 in
theorem dX11_goBack_217_g : dX11_goBack_217_l.all (fun x => decide (decode cX11_goBack x.1 = .ok x.2)) = true := by decide +kernel
noncomputable def dX11_goBack_288_l : List (Nat × Instr × Nat) := [(288, .iconst 3, 1), (289, .iload_n 2, 1), (290, .imul, 1), (291, .aload_n 0, 1), (292, .invokevirtual 372, 3), (295, .iastore, 1), (296, .aload_n 0, 1), (297, .getfield 81, 3), (300, .iconst 3, 1), (301, .iload_n 2, 1), (302, .imul, 1), (303, .iconst 1, 1), (304, .iadd, 1), (305, .aload_n 0, 1), (306, .invokevirtual 372, 3), (309, .iastore, 1), (310, .aload_n 0, 1), (311, .getfield 81, 3), (314, .iconst 3, 1), (315, .iload_n 2, 1), (316, .imul, 1), (317, .iconst 2, 1), (318, .iadd, 1), (319, .aload_n 0, 1), (320, .invokevirtual 372, 3), (323, .iastore, 1), (324, .iinc 2 1, 3), (327, .goto (-69), 3), (330, .iconst 1, 1), (331, .ireturn, 1)]
set_option maxRecDepth 100000 in
theorem dX11_goBack_288_g : dX11_goBack_288_l.all (fun x => decide (decode cX11_goBack x.1 = .ok x.2)) = true := by decide +kernel
noncomputable def dJ6_bitCount_0f7a4_0_l : List (Nat × Instr × Nat) := [(0, .iload_n 0, 1), (1, .iload_n 0, 1), (2, .iconst 1, 1), (3, .iushr, 1), (4, .ldc_w 265, 3), (7, .iand, 1), (8, .isub, 1), (9, .istore_n 0, 1), (10, .iload_n 0, 1), (11, .ldc_w 266, 3), (14, .iand, 1), (15, .iload_n 0, 1), (16, .iconst 2, 1), (17, .iushr, 1), (18, .ldc_w 266, 3), (21, .iand, 1), (22, .iadd, 1), (23, .istore_n 0, 1), (24, .iload_n 0, 1), (25, .iload_n 0, 1), (26, .iconst 4, 1), (27, .iushr, 1), (28, .iadd, 1), (29, .ldc_w 267, 3), (32, .iand, 1), (33, .istore_n 0, 1), (34, .iload_n 0, 1), (35, .iload_n 0, 1), (36, .bipush 8, 2), (38, .iushr, 1), (39, .iadd, 1), (40, .istore_n 0, 1), (41, .iload_n 0, 1), (42, .iload_n 0, 1), (43, .bipush 16, 2), (45, .iushr, 1), (46, .iadd, 1), (47, .istore_n 0, 1), (48, .iload_n 0, 1), (49, .bipush 63, 2)]
set_option maxRecDepth 100000 in
theorem dJ6_bitCount_0f7a4_0_g : dJ6_bitCount_0f7a4_0_l.all (fun x => decide (decode cJ6_bitCount_0f7a4 x.1 = .ok x.2)) = true := by decide +kernel
noncomputable def dJ6_bitCount_0f7a4_51_l : List (Nat × Instr × Nat) := [(51, .iand, 1), (52, .ireturn, 1)]
set_option maxRecDepth 100000 in
theorem dJ6_bitCount_0f7a4_51_g : dJ6_bitCount_0f7a4_51_l.all (fun x => decide (decode cJ6_bitCount_0f7a4 x.1 = .ok x.2)) = true := by decide +kernel
noncomputable def dJ9_max_7cf53_0_l : List (Nat × Instr × Nat) := [(0, .iload_n 0, 1), (1, .iload_n 1, 1), (2, .if_icmp .lt 7, 3), (5, .iload_n 0, 1), (6, .goto 4, 3), (9, .iload_n 1, 1), (10, .ireturn, 1)]
set_option maxRecDepth 100000 in
theorem dJ9_max_7cf53_0_g : dJ9_max_7cf53_0_l.all (fun x => decide (decode cJ9_max_7cf53 x.1 = .ok x.2)) = true := by decide +kernel
noncomputable def dJ9_min_7cf53_0_l : List (Nat × Instr × Nat) := [(0, .iload_n 0, 1), (1, .iload_n 1, 1), (2, .if_icmp .gt 7, 3), (5, .iload_n 0, 1), (6, .goto 4, 3), (9, .iload_n 1, 1), (10, .ireturn, 1)]
set_option maxRecDepth 100000 in
theorem dJ9_min_7cf53_0_g : dJ9_min_7cf53_0_l.all (fun x => decide (decode cJ9_min_7cf53 x.1 = .ok x.2)) = true := by decide +kernel
set_option maxRecDepth 100000 in
theorem gw_J0_coder_7d493 : wsJ0_coder_7d493.all goodWord = true := by decide +kernel
set_option maxRecDepth 100000 in
theorem ggJ0_length_8abf5_J0_coder_7d493 : GoodIn wsJ0_length_8abf5 wsJ0_coder_7d493 := goodIn_sub (sub_c (nq_m (n := 6) rfl) (sub_c (nq_m (n := 7) rfl) (sub_c (nq_m (n := 8) rfl) sub_n))) gw_J0_coder_7d493
set_option maxRecDepth 100000 in
theorem gJ0_length_8abf5_J0_coder_7d493 : GoodIn wsJ0_length_8abf5 (wsV RJ0 335 RJ0 yJ0_coder_7d493 wsJ0_coder_7d493) := goodIn_app (goodIn_sub (sub_c (nq_m (n := 2) rfl) (sub_c (nq_m (n := 3) rfl) (sub_c (nq_m (n := 4) rfl) (sub_c (nq_m (n := 5) rfl) sub_n)))) (by decide +kernel)) ggJ0_length_8abf5_J0_coder_7d493
noncomputable def dJ0_length_8abf5_0_l : List (Nat × Instr × Nat) := [(0, .aload_n 0, 1), (1, .getfield 9, 3), (4, .arraylength, 1), (5, .aload_n 0, 1), (6, .invokevirtual 335, 3), (9, .ishr, 1), (10, .ireturn, 1)]
set_option maxRecDepth 100000 in
theorem dJ0_length_8abf5_0_g : dJ0_length_8abf5_0_l.all (fun x => decide (decode cJ0_length_8abf5 x.1 = .ok x.2)) = true := by decide +kernel
set_option maxRecDepth 100000 in
theorem gw_J0_isLatin1_aae02 : wsJ0_isLatin1_aae02.all goodWord = true := by decide +kernel
set_option maxRecDepth 100000 in
theorem ggJ0_charAt_5068e_J0_isLatin1_aae02 : GoodIn wsJ0_charAt_5068e wsJ0_isLatin1_aae02 := goodIn_sub (sub_c (nq_m (n := 6) rfl) (sub_c (nq_m (n := 7) rfl) (sub_c (nq_m (n := 8) rfl) sub_n))) gw_J0_isLatin1_aae02
set_option maxRecDepth 100000 in
theorem gJ0_charAt_5068e_J0_isLatin1_aae02 : GoodIn wsJ0_charAt_5068e (wsV RJ0 492 RJ0 yJ0_isLatin1_aae02 wsJ0_isLatin1_aae02) := goodIn_app (goodIn_sub (sub_c (nq_m (n := 2) rfl) (sub_c (nq_m (n := 3) rfl) (sub_c (nq_m (n := 4) rfl) (sub_c (nq_m (n := 5) rfl) sub_n)))) (by decide +kernel)) ggJ0_charAt_5068e_J0_isLatin1_aae02
set_option maxRecDepth 100000 in
theorem gw_J1_charAt_3b067 : wsJ1_charAt_3b067.all goodWord = true := by decide +kernel
set_option maxRecDepth 100000 in
theorem ggJ0_charAt_5068e_J1_charAt_3b067 : GoodIn wsJ0_charAt_5068e wsJ1_charAt_3b067 := goodIn_sub (sub_g [(12, [0, 0]), (5, [9, 0, 0, 0, 0, 0])] rfl) gw_J1_charAt_3b067
set_option maxRecDepth 100000 in
theorem gJ0_charAt_5068e_J1_charAt_3b067 : GoodIn wsJ0_charAt_5068e (va_wsS RJ0 495 yJ1_charAt_3b067 wsJ1_charAt_3b067) := goodIn_app (goodIn_sub (sub_c (nq_m (n := 9) rfl) (sub_c (nq_m (n := 10) rfl) (sub_c (nq_m (n := 11) rfl) sub_n))) (by decide +kernel)) ggJ0_charAt_5068e_J1_charAt_3b067
set_option maxRecDepth 100000 in
theorem gw_J2_charAt_3b067 : wsJ2_charAt_3b067.all goodWord = true := by decide +kernel
set_option maxRecDepth 100000 in
theorem ggJ0_charAt_5068e_J2_charAt_3b067 : GoodIn wsJ0_charAt_5068e wsJ2_charAt_3b067 := goodIn_sub (sub_g [(24, [0, 0]), (23, [3, 0, 0, 0, 0]), (14, []), (5, [9, 0, 0, 0, 0, 0, 11, 0, 0, 0, 0, 0])] rfl) gw_J2_charAt_3b067
set_option maxRecDepth 100000 in
theorem gJ0_charAt_5068e_J2_charAt_3b067 : GoodIn wsJ0_charAt_5068e (va_wsS RJ0 498 yJ2_charAt_3b067 wsJ2_charAt_3b067) := goodIn_app (goodIn_sub (sub_c (nq_m (n := 21) rfl) (sub_c (nq_m (n := 22) rfl) (sub_c (nq_m (n := 23) rfl) sub_n))) (by decide +kernel)) ggJ0_charAt_5068e_J2_charAt_3b067
noncomputable def dJ0_charAt_5068e_0_l : List (Nat × Instr × Nat) := [(0, .aload_n 0, 1), (1, .invokevirtual 492, 3), (4, .ifCond .eq 12, 3), (7, .aload_n 0, 1), (8, .getfield 9, 3), (11, .iload_n 1, 1), (12, .invokestatic 495, 3), (15, .ireturn, 1), (16, .aload_n 0, 1), (17, .getfield 9, 3), (20, .iload_n 1, 1), (21, .invokestatic 498, 3), (24, .ireturn, 1)]
set_option maxRecDepth 100000 in
theorem dJ0_charAt_5068e_0_g : dJ0_charAt_5068e_0_l.all (fun x => decide (decode cJ0_charAt_5068e x.1 = .ok x.2)) = true := by decide +kernel
noncomputable def dJ0_coder_7d493_0_l : List (Nat × Instr × Nat) := [(0, .getstatic 38, 3), (3, .ifCond .eq 10, 3), (6, .aload_n 0, 1), (7, .getfield 15, 3), (10, .goto 4, 3), (13, .iconst 1, 1), (14, .ireturn, 1)]
set_option maxRecDepth 100000 in
theorem dJ0_coder_7d493_0_g : dJ0_coder_7d493_0_l.all (fun x => decide (decode cJ0_coder_7d493 x.1 = .ok x.2)) = true := by decide +kernel
noncomputable def dJ0_isLatin1_aae02_0_l : List (Nat × Instr × Nat) := [(0, .getstatic 38, 3), (3, .ifCond .eq 14, 3), (6, .aload_n 0, 1), (7, .getfield 15, 3), (10, .ifCond .ne 7, 3), (13, .iconst 1, 1), (14, .goto 4, 3), (17, .iconst 0, 1), (18, .ireturn, 1)]
set_option maxRecDepth 100000 in
theorem dJ0_isLatin1_aae02_0_g : dJ0_isLatin1_aae02_0_l.all (fun x => decide (decode cJ0_isLatin1_aae02 x.1 = .ok x.2)) = true := by decide +kernel
set_option maxRecDepth 100000 in
theorem gw_J3_checkIndex_8e157 : wsJ3_checkIndex_8e157.all goodWord = true := by decide +kernel
set_option maxRecDepth 100000 in
theorem ggJ0_checkIndex_df160_J3_checkIndex_8e157 : GoodIn wsJ0_checkIndex_df160 wsJ3_checkIndex_8e157 := goodIn_sub (sub_c (nq_m (n := 5) rfl) sub_n) gw_J3_checkIndex_8e157
set_option maxRecDepth 100000 in
theorem gJ0_checkIndex_df160_J3_checkIndex_8e157 : GoodIn wsJ0_checkIndex_df160 (va_wsS RJ0 1059 yJ3_checkIndex_8e157 wsJ3_checkIndex_8e157) := goodIn_app (goodIn_sub (sub_c (nq_m (n := 2) rfl) (sub_c (nq_m (n := 3) rfl) (sub_c (nq_m (n := 4) rfl) sub_n))) (by decide +kernel)) ggJ0_checkIndex_df160_J3_checkIndex_8e157
noncomputable def dJ0_checkIndex_df160_0_l : List (Nat × Instr × Nat) := [(0, .iload_n 0, 1), (1, .iload_n 1, 1), (2, .getstatic 1053, 3), (5, .invokestatic 1059, 3), (8, .pop, 1), (9, .return_, 1)]
set_option maxRecDepth 100000 in
theorem dJ0_checkIndex_df160_0_g : dJ0_checkIndex_df160_0_l.all (fun x => decide (decode cJ0_checkIndex_df160 x.1 = .ok x.2)) = true := by decide +kernel
set_option maxRecDepth 100000 in
theorem gw_J0_checkIndex_df160 : wsJ0_checkIndex_df160.all goodWord = true := by decide +kernel
set_option maxRecDepth 100000 in
theorem ggJ1_charAt_3b067_J0_checkIndex_df160 : GoodIn wsJ1_charAt_3b067 wsJ0_checkIndex_df160 := goodIn_sub (sub_g [(4, [0, 0, 0, 0, 0])] rfl) gw_J0_checkIndex_df160
set_option maxRecDepth 100000 in
theorem gJ1_charAt_3b067_J0_checkIndex_df160 : GoodIn wsJ1_charAt_3b067 (va_wsS RJ1 9 yJ0_checkIndex_df160 wsJ0_checkIndex_df160) := goodIn_app (goodIn_sub (sub_c (nq_m (n := 1) rfl) (sub_c (nq_m (n := 2) rfl) (sub_c (nq_m (n := 3) rfl) sub_n))) (by decide +kernel)) ggJ1_charAt_3b067_J0_checkIndex_df160
noncomputable def dJ1_charAt_3b067_0_l : List (Nat × Instr × Nat) := [(0, .iload_n 1, 1), (1, .aload_n 0, 1), (2, .arraylength, 1), (3, .invokestatic 9, 3), (6, .aload_n 0, 1), (7, .iload_n 1, 1), (8, .baload, 1), (9, .sipush 255, 3), (12, .iand, 1), (13, .i2c, 1), (14, .ireturn, 1)]
set_option maxRecDepth 100000 in
theorem dJ1_charAt_3b067_0_g : dJ1_charAt_3b067_0_l.all (fun x => decide (decode cJ1_charAt_3b067 x.1 = .ok x.2)) = true := by decide +kernel
set_option maxRecDepth 100000 in
theorem gw_J2_length_9d52b : wsJ2_length_9d52b.all goodWord = true := by decide +kernel
set_option maxRecDepth 100000 in
theorem ggJ2_getChar_3b067_J2_length_9d52b : GoodIn wsJ2_getChar_3b067 wsJ2_length_9d52b := goodIn_sub (sub_c (nq_m (n := 7) rfl) sub_n) gw_J2_length_9d52b
set_option maxRecDepth 100000 in
theorem gJ2_getChar_3b067_J2_length_9d52b : GoodIn wsJ2_getChar_3b067 (va_wsS RJ2 48 yJ2_length_9d52b wsJ2_length_9d52b) := goodIn_app (goodIn_sub (sub_c (nq_m (n := 4) rfl) (sub_c (nq_m (n := 5) rfl) (sub_c (nq_m (n := 6) rfl) sub_n))) (by decide +kernel)) ggJ2_getChar_3b067_J2_length_9d52b
noncomputable def dJ2_getChar_3b067_0_l : List (Nat × Instr × Nat) := [(0, .getstatic 44, 3), (3, .ifCond .ne 25, 3), (6, .iload_n 1, 1), (7, .ifCond .lt 11, 3), (10, .iload_n 1, 1), (11, .aload_n 0, 1), (12, .invokestatic 48, 3), (15, .if_icmp .lt 13, 3), (18, .new 52, 3), (21, .dup, 1), (22, .ldc 54, 2), (24, .invokespecial 56, 3), (27, .athrow, 1), (28, .iload_n 1, 1), (29, .iconst 1, 1), (30, .ishl, 1), (31, .istore_n 1, 1), (32, .aload_n 0, 1), (33, .iload_n 1, 1), (34, .iinc 1 1, 3), (37, .baload, 1), (38, .sipush 255, 3), (41, .iand, 1), (42, .getstatic 59, 3), (45, .ishl, 1), (46, .aload_n 0, 1), (47, .iload_n 1, 1), (48, .baload, 1), (49, .sipush 255, 3), (52, .iand, 1), (53, .getstatic 63, 3), (56, .ishl, 1), (57, .ior, 1), (58, .i2c, 1), (59, .ireturn, 1)]
set_option maxRecDepth 100000 in
theorem dJ2_getChar_3b067_0_g : dJ2_getChar_3b067_0_l.all (fun x => decide (decode cJ2_getChar_3b067 x.1 = .ok x.2)) = true := by decide +kernel
noncomputable def dJ2_length_9d52b_0_l : List (Nat × Instr × Nat) := [(0, .aload_n 0, 1), (1, .arraylength, 1), (2, .iconst 1, 1), (3, .ishr, 1), (4, .ireturn, 1)]
set_option maxRecDepth 100000 in
theorem dJ2_length_9d52b_0_g : dJ2_length_9d52b_0_l.all (fun x => decide (decode cJ2_length_9d52b x.1 = .ok x.2)) = true := by decide +kernel
set_option maxRecDepth 100000 in
theorem gw_J2_checkIndex_2214a : wsJ2_checkIndex_2214a.all goodWord = true := by decide +kernel
set_option maxRecDepth 100000 in
theorem ggJ2_charAt_3b067_J2_checkIndex_2214a : GoodIn wsJ2_charAt_3b067 wsJ2_checkIndex_2214a := goodIn_sub (sub_g [(4, [0, 0]), (3, [3, 0, 0, 0, 0, 0, 0, 0, 0, 0])] rfl) gw_J2_checkIndex_2214a
set_option maxRecDepth 100000 in
theorem gJ2_charAt_3b067_J2_checkIndex_2214a : GoodIn wsJ2_charAt_3b067 (va_wsS RJ2 67 yJ2_checkIndex_2214a wsJ2_checkIndex_2214a) := goodIn_app (goodIn_sub (sub_c (nq_m (n := 1) rfl) (sub_c (nq_m (n := 2) rfl) (sub_c (nq_m (n := 3) rfl) sub_n))) (by decide +kernel)) ggJ2_charAt_3b067_J2_checkIndex_2214a
set_option maxRecDepth 100000 in
theorem gw_J2_getChar_3b067 : wsJ2_getChar_3b067.all goodWord = true := by decide +kernel
set_option maxRecDepth 100000 in
theorem ggJ2_charAt_3b067_J2_getChar_3b067 : GoodIn wsJ2_charAt_3b067 wsJ2_getChar_3b067 := goodIn_sub (sub_g [(19, [0, 0, 0]), (5, [0]), (3, [3])] rfl) gw_J2_getChar_3b067
set_option maxRecDepth 100000 in
theorem gJ2_charAt_3b067_J2_getChar_3b067 : GoodIn wsJ2_charAt_3b067 (va_wsS RJ2 71 yJ2_getChar_3b067 wsJ2_getChar_3b067) := goodIn_app (goodIn_sub (sub_c (nq_m (n := 17) rfl) (sub_c (nq_m (n := 18) rfl) (sub_c (nq_m (n := 3) rfl) sub_n))) (by decide +kernel)) ggJ2_charAt_3b067_J2_getChar_3b067
noncomputable def dJ2_charAt_3b067_0_l : List (Nat × Instr × Nat) := [(0, .iload_n 1, 1), (1, .aload_n 0, 1), (2, .invokestatic 67, 3), (5, .aload_n 0, 1), (6, .iload_n 1, 1), (7, .invokestatic 71, 3), (10, .ireturn, 1)]
set_option maxRecDepth 100000 in
theorem dJ2_charAt_3b067_0_g : dJ2_charAt_3b067_0_l.all (fun x => decide (decode cJ2_charAt_3b067 x.1 = .ok x.2)) = true := by decide +kernel
set_option maxRecDepth 100000 in
theorem ggJ2_checkIndex_2214a_J2_length_9d52b : GoodIn wsJ2_checkIndex_2214a wsJ2_length_9d52b := goodIn_sub (sub_c (nq_m (n := 4) rfl) sub_n) gw_J2_length_9d52b
set_option maxRecDepth 100000 in
theorem gJ2_checkIndex_2214a_J2_length_9d52b : GoodIn wsJ2_checkIndex_2214a (va_wsS RJ2 48 yJ2_length_9d52b wsJ2_length_9d52b) := goodIn_app (goodIn_sub (sub_c (nq_m (n := 1) rfl) (sub_c (nq_m (n := 2) rfl) (sub_c (nq_m (n := 3) rfl) sub_n))) (by decide +kernel)) ggJ2_checkIndex_2214a_J2_length_9d52b
set_option maxRecDepth 100000 in
theorem ggJ2_checkIndex_2214a_J0_checkIndex_df160 : GoodIn wsJ2_checkIndex_2214a wsJ0_checkIndex_df160 := goodIn_sub (sub_g [(8, [0, 0, 0, 0, 0])] rfl) gw_J0_checkIndex_df160
set_option maxRecDepth 100000 in
theorem gJ2_checkIndex_2214a_J0_checkIndex_df160 : GoodIn wsJ2_checkIndex_2214a (va_wsS RJ2 414 yJ0_checkIndex_df160 wsJ0_checkIndex_df160) := goodIn_app (goodIn_sub (sub_c (nq_m (n := 5) rfl) (sub_c (nq_m (n := 6) rfl) (sub_c (nq_m (n := 7) rfl) sub_n))) (by decide +kernel)) ggJ2_checkIndex_2214a_J0_checkIndex_df160
noncomputable def dJ2_checkIndex_2214a_0_l : List (Nat × Instr × Nat) := [(0, .iload_n 0, 1), (1, .aload_n 1, 1), (2, .invokestatic 48, 3), (5, .invokestatic 414, 3), (8, .return_, 1)]
set_option maxRecDepth 100000 in
theorem dJ2_checkIndex_2214a_0_g : dJ2_checkIndex_2214a_0_l.all (fun x => decide (decode cJ2_checkIndex_2214a x.1 = .ok x.2)) = true := by decide +kernel
noncomputable def dJ3_checkIndex_8e157_0_l : List (Nat × Instr × Nat) := [(0, .iload_n 0, 1), (1, .ifCond .lt 8, 3), (4, .iload_n 0, 1), (5, .iload_n 1, 1), (6, .if_icmp .lt 10, 3), (9, .aload_n 2, 1), (10, .iload_n 0, 1), (11, .iload_n 1, 1), (12, .invokestatic 95, 3), (15, .athrow, 1), (16, .iload_n 0, 1), (17, .ireturn, 1)]
set_option maxRecDepth 100000 in
theorem dJ3_checkIndex_8e157_0_g : dJ3_checkIndex_8e157_0_l.all (fun x => decide (decode cJ3_checkIndex_8e157 x.1 = .ok x.2)) = true := by decide +kernel
