theorem dX11_hang_158 : decode cX11_hang 158 = .ok (.ireturn, 1) := nq_d dX11_hang_146_g (n := 6) rfl
set_option maxRecDepth 100000 in
theorem ggX11_give_X11_isHand : GoodIn wsX11_give wsX11_isHand := goodIn_sub (sub_c (nq_m (n := 8) rfl) (sub_c (nq_m (n := 9) rfl) (sub_c (nq_m (n := 10) rfl) (sub_c (nq_m (n := 11) rfl) (sub_c (nq_m (n := 7) rfl) (sub_c (nq_m (n := 12) rfl) sub_n)))))) (by decide +kernel)
set_option maxRecDepth 100000 in
theorem gX11_give_X11_isHand : GoodIn wsX11_give (va_wsS RX11 284 yX11_isHand wsX11_isHand) := goodIn_app (goodIn_sub (sub_c (nq_m (n := 5) rfl) (sub_c (nq_m (n := 6) rfl) (sub_c (nq_m (n := 7) rfl) sub_n))) (by decide +kernel)) ggX11_give_X11_isHand
set_option maxRecDepth 100000 in
theorem ggX11_give_X11_isGuest : GoodIn wsX11_give wsX11_isGuest := goodIn_sub (sub_c (nq_m (n := 16) rfl) (sub_c (nq_m (n := 17) rfl) (sub_c (nq_m (n := 10) rfl) (sub_c (nq_m (n := 11) rfl) (sub_c (nq_m (n := 7) rfl) (sub_c (nq_m (n := 12) rfl) (sub_c (nq_m (n := 28) rfl) (sub_c (nq_m (n := 29) rfl) (sub_c (nq_m (n := 30) rfl) (sub_c (nq_m (n := 31) rfl) (sub_c (nq_m (n := 32) rfl) (sub_c (nq_m (n := 33) rfl) (sub_c (nq_m (n := 34) rfl) (sub_c (nq_m (n := 35) rfl) (sub_c (nq_m (n := 36) rfl) (sub_c (nq_m (n := 37) rfl) (sub_c (nq_m (n := 38) rfl) (sub_c (nq_m (n := 39) rfl) (sub_c (nq_m (n := 40) rfl) (sub_c (nq_m (n := 41) rfl) (sub_c (nq_m (n := 42) rfl) (sub_c (nq_m (n := 43) rfl) (sub_c (nq_m (n := 44) rfl) (sub_c (nq_m (n := 45) rfl) (sub_c (nq_m (n := 46) rfl) (sub_c (nq_m (n := 47) rfl) (sub_c (nq_m (n := 48) rfl) (sub_c (nq_m (n := 49) rfl) (sub_c (nq_m (n := 50) rfl) (sub_c (nq_m (n := 51) rfl) (sub_c (nq_m (n := 52) rfl) (sub_c (nq_m (n := 53) rfl) (sub_c (nq_m (n := 54) rfl) (sub_c (nq_m (n := 55) rfl) (sub_c (nq_m (n := 56) rfl) (sub_c (nq_m (n := 57) rfl) (sub_c (nq_m (n := 58) rfl) (sub_c (nq_m (n := 59) rfl) (sub_c (nq_m (n := 60) rfl) (sub_c (nq_m (n := 61) rfl) (sub_c (nq_m (n := 62) rfl) (sub_c (nq_m (n := 63) rfl) (sub_c (nq_m (n := 64) rfl) (sub_c (nq_m (n := 65) rfl) (sub_c (nq_m (n := 66) rfl) (sub_c (nq_m (n := 67) rfl) (sub_c (nq_m (n := 68) rfl) (sub_c (nq_m (n := 69) rfl) (sub_c (nq_m (n := 70) rfl) (sub_c (nq_m (n := 71) rfl) (sub_c (nq_m (n := 72) rfl) (sub_c (nq_m (n := 73) rfl) (sub_c (nq_m (n := 74) rfl) (sub_c (nq_m (n := 75) rfl) (sub_c (nq_m (n := 76) rfl) (sub_c (nq_m (n := 77) rfl) (sub_c (nq_m (n := 78) rfl) (sub_c (nq_m (n := 79) rfl) (sub_c (nq_m (n := 80) rfl) (sub_c (nq_m (n := 81) rfl) (sub_c (nq_m (n := 82) rfl) (sub_c (nq_m (n := 83) rfl) (sub_c (nq_m (n := 84) rfl) (sub_c (nq_m (n := 85) rfl) sub_n)))))))))))))))))))))))))))))))))))))))))))))))))))))))))))))))) (by decide +kernel)
set_option maxRecDepth 100000 in
theorem gX11_give_X11_isGuest : GoodIn wsX11_give (wsV RX11 255 RX11 yX11_isGuest wsX11_isGuest) := goodIn_app (goodIn_sub (sub_c (nq_m (n := 13) rfl) (sub_c (nq_m (n := 14) rfl) (sub_c (nq_m (n := 15) rfl) (sub_c (nq_m (n := 7) rfl) sub_n)))) (by decide +kernel)) ggX11_give_X11_isGuest
set_option maxRecDepth 100000 in
theorem ggX11_give_X11_isPeg : GoodIn wsX11_give wsX11_isPeg := goodIn_sub (sub_c (nq_m (n := 21) rfl) (sub_c (nq_m (n := 22) rfl) (sub_c (nq_m (n := 10) rfl) (sub_c (nq_m (n := 11) rfl) (sub_c (nq_m (n := 7) rfl) (sub_c (nq_m (n := 12) rfl) (sub_c (nq_m (n := 28) rfl) (sub_c (nq_m (n := 29) rfl) (sub_c (nq_m (n := 30) rfl) (sub_c (nq_m (n := 31) rfl) (sub_c (nq_m (n := 32) rfl) (sub_c (nq_m (n := 33) rfl) (sub_c (nq_m (n := 34) rfl) (sub_c (nq_m (n := 35) rfl) (sub_c (nq_m (n := 36) rfl) (sub_c (nq_m (n := 37) rfl) (sub_c (nq_m (n := 38) rfl) (sub_c (nq_m (n := 39) rfl) (sub_c (nq_m (n := 40) rfl) (sub_c (nq_m (n := 41) rfl) (sub_c (nq_m (n := 42) rfl) (sub_c (nq_m (n := 43) rfl) (sub_c (nq_m (n := 44) rfl) (sub_c (nq_m (n := 45) rfl) (sub_c (nq_m (n := 46) rfl) (sub_c (nq_m (n := 47) rfl) (sub_c (nq_m (n := 48) rfl) (sub_c (nq_m (n := 49) rfl) (sub_c (nq_m (n := 50) rfl) (sub_c (nq_m (n := 51) rfl) (sub_c (nq_m (n := 52) rfl) (sub_c (nq_m (n := 53) rfl) (sub_c (nq_m (n := 54) rfl) (sub_c (nq_m (n := 55) rfl) (sub_c (nq_m (n := 56) rfl) (sub_c (nq_m (n := 57) rfl) (sub_c (nq_m (n := 58) rfl) (sub_c (nq_m (n := 59) rfl) (sub_c (nq_m (n := 60) rfl) (sub_c (nq_m (n := 61) rfl) (sub_c (nq_m (n := 62) rfl) (sub_c (nq_m (n := 63) rfl) (sub_c (nq_m (n := 64) rfl) (sub_c (nq_m (n := 65) rfl) (sub_c (nq_m (n := 66) rfl) (sub_c (nq_m (n := 67) rfl) (sub_c (nq_m (n := 68) rfl) (sub_c (nq_m (n := 69) rfl) (sub_c (nq_m (n := 70) rfl) (sub_c (nq_m (n := 71) rfl) (sub_c (nq_m (n := 72) rfl) (sub_c (nq_m (n := 73) rfl) (sub_c (nq_m (n := 74) rfl) (sub_c (nq_m (n := 75) rfl) (sub_c (nq_m (n := 76) rfl) (sub_c (nq_m (n := 77) rfl) (sub_c (nq_m (n := 78) rfl) (sub_c (nq_m (n := 79) rfl) (sub_c (nq_m (n := 80) rfl) (sub_c (nq_m (n := 81) rfl) (sub_c (nq_m (n := 82) rfl) (sub_c (nq_m (n := 83) rfl) (sub_c (nq_m (n := 84) rfl) (sub_c (nq_m (n := 85) rfl) sub_n)))))))))))))))))))))))))))))))))))))))))))))))))))))))))))))))) (by decide +kernel)
set_option maxRecDepth 100000 in
theorem gX11_give_X11_isPeg : GoodIn wsX11_give (wsV RX11 230 RX11 yX11_isPeg wsX11_isPeg) := goodIn_app (goodIn_sub (sub_c (nq_m (n := 18) rfl) (sub_c (nq_m (n := 19) rfl) (sub_c (nq_m (n := 20) rfl) (sub_c (nq_m (n := 7) rfl) sub_n)))) (by decide +kernel)) ggX11_give_X11_isPeg
set_option maxRecDepth 100000 in
theorem ggX11_give_X11_addEvent : GoodIn wsX11_give wsX11_addEvent := goodIn_sub (sub_c (nq_m (n := 26) rfl) (sub_c (nq_m (n := 4) rfl) (sub_c (nq_m (n := 27) rfl) (sub_c (nq_m (n := 28) rfl) (sub_c (nq_m (n := 29) rfl) (sub_c (nq_m (n := 30) rfl) (sub_c (nq_m (n := 31) rfl) (sub_c (nq_m (n := 32) rfl) (sub_c (nq_m (n := 33) rfl) (sub_c (nq_m (n := 34) rfl) (sub_c (nq_m (n := 35) rfl) (sub_c (nq_m (n := 36) rfl) (sub_c (nq_m (n := 37) rfl) (sub_c (nq_m (n := 38) rfl) (sub_c (nq_m (n := 39) rfl) (sub_c (nq_m (n := 40) rfl) (sub_c (nq_m (n := 41) rfl) (sub_c (nq_m (n := 42) rfl) (sub_c (nq_m (n := 43) rfl) (sub_c (nq_m (n := 44) rfl) (sub_c (nq_m (n := 45) rfl) (sub_c (nq_m (n := 46) rfl) (sub_c (nq_m (n := 47) rfl) (sub_c (nq_m (n := 48) rfl) (sub_c (nq_m (n := 49) rfl) (sub_c (nq_m (n := 50) rfl) (sub_c (nq_m (n := 51) rfl) (sub_c (nq_m (n := 52) rfl) (sub_c (nq_m (n := 53) rfl) (sub_c (nq_m (n := 54) rfl) (sub_c (nq_m (n := 55) rfl) (sub_c (nq_m (n := 56) rfl) (sub_c (nq_m (n := 57) rfl) (sub_c (nq_m (n := 58) rfl) (sub_c (nq_m (n := 59) rfl) (sub_c (nq_m (n := 60) rfl) (sub_c (nq_m (n := 61) rfl) (sub_c (nq_m (n := 62) rfl) (sub_c (nq_m (n := 63) rfl) (sub_c (nq_m (n := 64) rfl) (sub_c (nq_m (n := 65) rfl) (sub_c (nq_m (n := 66) rfl) (sub_c (nq_m (n := 67) rfl) (sub_c (nq_m (n := 68) rfl) (sub_c (nq_m (n := 69) rfl) (sub_c (nq_m (n := 70) rfl) (sub_c (nq_m (n := 71) rfl) (sub_c (nq_m (n := 72) rfl) (sub_c (nq_m (n := 73) rfl) (sub_c (nq_m (n := 74) rfl) (sub_c (nq_m (n := 75) rfl) (sub_c (nq_m (n := 76) rfl) (sub_c (nq_m (n := 77) rfl) (sub_c (nq_m (n := 78) rfl) (sub_c (nq_m (n := 79) rfl) (sub_c (nq_m (n := 80) rfl) (sub_c (nq_m (n := 81) rfl) (sub_c (nq_m (n := 82) rfl) (sub_c (nq_m (n := 83) rfl) (sub_c (nq_m (n := 84) rfl) (sub_c (nq_m (n := 85) rfl) sub_n))))))))))))))))))))))))))))))))))))))))))))))))))))))))))))) (by decide +kernel)
set_option maxRecDepth 100000 in
theorem gX11_give_X11_addEvent : GoodIn wsX11_give (wsV RX11 295 RX11 yX11_addEvent wsX11_addEvent) := goodIn_app (goodIn_sub (sub_c (nq_m (n := 23) rfl) (sub_c (nq_m (n := 24) rfl) (sub_c (nq_m (n := 25) rfl) (sub_c (nq_m (n := 7) rfl) sub_n)))) (by decide +kernel)) ggX11_give_X11_addEvent
noncomputable def dX11_give_0_l : List (Nat × Instr × Nat) := [(0, .iload_n 1, 1), (1, .invokestatic 284, 3), (4, .ifCond .eq 19, 3), (7, .aload_n 0, 1), (8, .iload_n 2, 1), (9, .invokevirtual 255, 3), (12, .ifCond .eq 11, 3), (15, .aload_n 0, 1), (16, .iload_n 3, 1), (17, .invokevirtual 230, 3), (20, .ifCond .ne 7, 3), (23, .sipush (-1001), 3), (26, .ireturn, 1), (27, .aload_n 0, 1), (28, .getfield 56, 3), (31, .iload_n 2, 1), (32, .iaload, 1), (33, .ifCond .lt 21, 3), (36, .aload_n 0, 1), (37, .getfield 59, 3), (40, .iload_n 2, 1), (41, .iaload, 1), (42, .ifCond .ge 12, 3), (45, .aload_n 0, 1), (46, .getfield 41, 3), (49, .iload_n 3, 1), (50, .iaload, 1), (51, .ifCond .ge 7, 3), (54, .sipush (-1003), 3), (57, .ireturn, 1), (58, .aload_n 0, 1), (59, .getfield 215, 3), (62, .bipush 60, 2), (64, .if_icmp .ne 7, 3), (67, .sipush (-1004), 3), (70, .ireturn, 1), (71, .aload_n 0, 1), (72, .getfield 56, 3), (75, .iload_n 2, 1), (76, .iaload, 1)]
set_option maxRecDepth 100000 in
theorem dX11_give_0_g : dX11_give_0_l.all (fun x => decide (decode cX11_give x.1 = .ok x.2)) = true := by decide +kernel
theorem dX11_give_0 : decode cX11_give 0 = .ok (.iload_n 1, 1) := nq_d dX11_give_0_g (n := 0) rfl
theorem dX11_give_1 : decode cX11_give 1 = .ok (.invokestatic 284, 3) := nq_d dX11_give_0_g (n := 1) rfl
theorem dX11_give_4 : decode cX11_give 4 = .ok (.ifCond .eq 19, 3) := nq_d dX11_give_0_g (n := 2) rfl
theorem dX11_give_7 : decode cX11_give 7 = .ok (.aload_n 0, 1) := nq_d dX11_give_0_g (n := 3) rfl
theorem dX11_give_8 : decode cX11_give 8 = .ok (.iload_n 2, 1) := nq_d dX11_give_0_g (n := 4) rfl
theorem dX11_give_9 : decode cX11_give 9 = .ok (.invokevirtual 255, 3) := nq_d dX11_give_0_g (n := 5) rfl
theorem dX11_give_12 : decode cX11_give 12 = .ok (.ifCond .eq 11, 3) := nq_d dX11_give_0_g (n := 6) rfl
theorem dX11_give_15 : decode cX11_give 15 = .ok (.aload_n 0, 1) := nq_d dX11_give_0_g (n := 7) rfl
theorem dX11_give_16 : decode cX11_give 16 = .ok (.iload_n 3, 1) := nq_d dX11_give_0_g (n := 8) rfl
theorem dX11_give_17 : decode cX11_give 17 = .ok (.invokevirtual 230, 3) := nq_d dX11_give_0_g (n := 9) rfl
theorem dX11_give_20 : decode cX11_give 20 = .ok (.ifCond .ne 7, 3) := nq_d dX11_give_0_g (n := 10) rfl
theorem dX11_give_23 : decode cX11_give 23 = .ok (.sipush (-1001), 3) := nq_d dX11_give_0_g (n := 11) rfl
theorem dX11_give_26 : decode cX11_give 26 = .ok (.ireturn, 1) := nq_d dX11_give_0_g (n := 12) rfl
theorem dX11_give_27 : decode cX11_give 27 = .ok (.aload_n 0, 1) := nq_d dX11_give_0_g (n := 13) rfl
theorem dX11_give_28 : decode cX11_give 28 = .ok (.getfield 56, 3) := nq_d dX11_give_0_g (n := 14) rfl
theorem dX11_give_31 : decode cX11_give 31 = .ok (.iload_n 2, 1) := nq_d dX11_give_0_g (n := 15) rfl
theorem dX11_give_32 : decode cX11_give 32 = .ok (.iaload, 1) := nq_d dX11_give_0_g (n := 16) rfl
theorem dX11_give_33 : decode cX11_give 33 = .ok (.ifCond .lt 21, 3) := nq_d dX11_give_0_g (n := 17) rfl
theorem dX11_give_36 : decode cX11_give 36 = .ok (.aload_n 0, 1) := nq_d dX11_give_0_g (n := 18) rfl
theorem dX11_give_37 : decode cX11_give 37 = .ok (.getfield 59, 3) := nq_d dX11_give_0_g (n := 19) rfl
theorem dX11_give_40 : decode cX11_give 40 = .ok (.iload_n 2, 1) := nq_d dX11_give_0_g (n := 20) rfl
theorem dX11_give_41 : decode cX11_give 41 = .ok (.iaload, 1) := nq_d dX11_give_0_g (n := 21) rfl
theorem dX11_give_42 : decode cX11_give 42 = .ok (.ifCond .ge 12, 3) := nq_d dX11_give_0_g (n := 22) rfl
theorem dX11_give_45 : decode cX11_give 45 = .ok (.aload_n 0, 1) := nq_d dX11_give_0_g (n := 23) rfl
theorem dX11_give_46 : decode cX11_give 46 = .ok (.getfield 41, 3) := nq_d dX11_give_0_g (n := 24) rfl
theorem dX11_give_49 : decode cX11_give 49 = .ok (.iload_n 3, 1) := nq_d dX11_give_0_g (n := 25) rfl
theorem dX11_give_50 : decode cX11_give 50 = .ok (.iaload, 1) := nq_d dX11_give_0_g (n := 26) rfl
theorem dX11_give_51 : decode cX11_give 51 = .ok (.ifCond .ge 7, 3) := nq_d dX11_give_0_g (n := 27) rfl
theorem dX11_give_54 : decode cX11_give 54 = .ok (.sipush (-1003), 3) := nq_d dX11_give_0_g (n := 28) rfl
theorem dX11_give_57 : decode cX11_give 57 = .ok (.ireturn, 1) := nq_d dX11_give_0_g (n := 29) rfl
theorem dX11_give_58 : decode cX11_give 58 = .ok (.aload_n 0, 1) := nq_d dX11_give_0_g (n := 30) rfl
theorem dX11_give_59 : decode cX11_give 59 = .ok (.getfield 215, 3) := nq_d dX11_give_0_g (n := 31) rfl
theorem dX11_give_62 : decode cX11_give 62 = .ok (.bipush 60, 2) := nq_d dX11_give_0_g (n := 32) rfl
theorem dX11_give_64 : decode cX11_give 64 = .ok (.if_icmp .ne 7, 3) := nq_d dX11_give_0_g (n := 33) rfl
theorem dX11_give_67 : decode cX11_give 67 = .ok (.sipush (-1004), 3) := nq_d dX11_give_0_g (n := 34) rfl
theorem dX11_give_70 : decode cX11_give 70 = .ok (.ireturn, 1) := nq_d dX11_give_0_g (n := 35) rfl
theorem dX11_give_71 : decode cX11_give 71 = .ok (.aload_n 0, 1) := nq_d dX11_give_0_g (n := 36) rfl
theorem dX11_give_72 : decode cX11_give 72 = .ok (.getfield 56, 3) := nq_d dX11_give_0_g (n := 37) rfl
theorem dX11_give_75 : decode cX11_give 75 = .ok (.iload_n 2, 1) := nq_d dX11_give_0_g (n := 38) rfl
theorem dX11_give_76 : decode cX11_give 76 = .ok (.iaload, 1) := nq_d dX11_give_0_g (n := 39) rfl
noncomputable def dX11_give_77_l : List (Nat × Instr × Nat) := [(77, .istore 4, 2), (79, .aload_n 0, 1), (80, .getfield 41, 3), (83, .iload_n 3, 1), (84, .iaload, 1), (85, .istore 5, 2), (87, .aload_n 0, 1), (88, .getfield 59, 3), (91, .iload_n 2, 1), (92, .iload 5, 2), (94, .iastore, 1), (95, .aload_n 0, 1), (96, .getfield 41, 3), (99, .iload_n 3, 1), (100, .iconst (-1), 1), (101, .iastore, 1), (102, .aload_n 0, 1), (103, .getfield 56, 3), (106, .iload_n 2, 1), (107, .iconst (-1), 1), (108, .iastore, 1), (109, .aload_n 0, 1), (110, .iconst 1, 1), (111, .iload_n 1, 1), (112, .iload_n 2, 1), (113, .iload_n 3, 1), (114, .iload 4, 2), (116, .iload 5, 2), (118, .iload_n 3, 1), (119, .iload 4, 2), (121, .if_icmp .eq 7, 3), (124, .iconst 1, 1), (125, .goto 4, 3), (128, .iconst 0, 1), (129, .invokevirtual 295, 3), (132, .ireturn, 1)]
set_option maxRecDepth 100000 in
theorem dX11_give_77_g : dX11_give_77_l.all (fun x => decide (decode cX11_give x.1 = .ok x.2)) = true := by decide +kernel
theorem dX11_give_77 : decode cX11_give 77 = .ok (.istore 4, 2) := nq_d dX11_give_77_g (n := 0) rfl
theorem dX11_give_79 : decode cX11_give 79 = .ok (.aload_n 0, 1) := nq_d dX11_give_77_g (n := 1) rfl
theorem dX11_give_80 : decode cX11_give 80 = .ok (.getfield 41, 3) := nq_d dX11_give_77_g (n := 2) rfl
theorem dX11_give_83 : decode cX11_give 83 = .ok (.iload_n 3, 1) := nq_d dX11_give_77_g (n := 3) rfl
theorem dX11_give_84 : decode cX11_give 84 = .ok (.iaload, 1) := nq_d dX11_give_77_g (n := 4) rfl
theorem dX11_give_85 : decode cX11_give 85 = .ok (.istore 5, 2) := nq_d dX11_give_77_g (n := 5) rfl
theorem dX11_give_87 : decode cX11_give 87 = .ok (.aload_n 0, 1) := nq_d dX11_give_77_g (n := 6) rfl
theorem dX11_give_88 : decode cX11_give 88 = .ok (.getfield 59, 3) := nq_d dX11_give_77_g (n := 7) rfl
theorem dX11_give_91 : decode cX11_give 91 = .ok (.iload_n 2, 1) := nq_d dX11_give_77_g (n := 8) rfl
theorem dX11_give_92 : decode cX11_give 92 = .ok (.iload 5, 2) := nq_d dX11_give_77_g (n := 9) rfl
theorem dX11_give_94 : decode cX11_give 94 = .ok (.iastore, 1) := nq_d dX11_give_77_g (n := 10) rfl
theorem dX11_give_95 : decode cX11_give 95 = .ok (.aload_n 0, 1) := nq_d dX11_give_77_g (n := 11) rfl
theorem dX11_give_96 : decode cX11_give 96 = .ok (.getfield 41, 3) := nq_d dX11_give_77_g (n := 12) rfl
theorem dX11_give_99 : decode cX11_give 99 = .ok (.iload_n 3, 1) := nq_d dX11_give_77_g (n := 13) rfl
theorem dX11_give_100 : decode cX11_give 100 = .ok (.iconst (-1), 1) := nq_d dX11_give_77_g (n := 14) rfl
theorem dX11_give_101 : decode cX11_give 101 = .ok (.iastore, 1) := nq_d dX11_give_77_g (n := 15) rfl
theorem dX11_give_102 : decode cX11_give 102 = .ok (.aload_n 0, 1) := nq_d dX11_give_77_g (n := 16) rfl
theorem dX11_give_103 : decode cX11_give 103 = .ok (.getfield 56, 3) := nq_d dX11_give_77_g (n := 17) rfl
theorem dX11_give_106 : decode cX11_give 106 = .ok (.iload_n 2, 1) := nq_d dX11_give_77_g (n := 18) rfl
theorem dX11_give_107 : decode cX11_give 107 = .ok (.iconst (-1), 1) := nq_d dX11_give_77_g (n := 19) rfl
theorem dX11_give_108 : decode cX11_give 108 = .ok (.iastore, 1) := nq_d dX11_give_77_g (n := 20) rfl
theorem dX11_give_109 : decode cX11_give 109 = .ok (.aload_n 0, 1) := nq_d dX11_give_77_g (n := 21) rfl
theorem dX11_give_110 : decode cX11_give 110 = .ok (.iconst 1, 1) := nq_d dX11_give_77_g (n := 22) rfl
theorem dX11_give_111 : decode cX11_give 111 = .ok (.iload_n 1, 1) := nq_d dX11_give_77_g (n := 23) rfl
theorem dX11_give_112 : decode cX11_give 112 = .ok (.iload_n 2, 1) := nq_d dX11_give_77_g (n := 24) rfl
theorem dX11_give_113 : decode cX11_give 113 = .ok (.iload_n 3, 1) := nq_d dX11_give_77_g (n := 25) rfl
theorem dX11_give_114 : decode cX11_give 114 = .ok (.iload 4, 2) := nq_d dX11_give_77_g (n := 26) rfl
theorem dX11_give_116 : decode cX11_give 116 = .ok (.iload 5, 2) := nq_d dX11_give_77_g (n := 27) rfl
theorem dX11_give_118 : decode cX11_give 118 = .ok (.iload_n 3, 1) := nq_d dX11_give_77_g (n := 28) rfl
theorem dX11_give_119 : decode cX11_give 119 = .ok (.iload 4, 2) := nq_d dX11_give_77_g (n := 29) rfl
theorem dX11_give_121 : decode cX11_give 121 = .ok (.if_icmp .eq 7, 3) := nq_d dX11_give_77_g (n := 30) rfl
theorem dX11_give_124 : decode cX11_give 124 = .ok (.iconst 1, 1) := nq_d dX11_give_77_g (n := 31) rfl
theorem dX11_give_125 : decode cX11_give 125 = .ok (.goto 4, 3) := nq_d dX11_give_77_g (n := 32) rfl
theorem dX11_give_128 : decode cX11_give 128 = .ok (.iconst 0, 1) := nq_d dX11_give_77_g (n := 33) rfl
theorem dX11_give_129 : decode cX11_give 129 = .ok (.invokevirtual 295, 3) := nq_d dX11_give_77_g (n := 34) rfl
theorem dX11_give_132 : decode cX11_give 132 = .ok (.ireturn, 1) := nq_d dX11_give_77_g (n := 35) rfl
set_option maxRecDepth 100000 in
theorem ggX11_lose_X11_isGuest : GoodIn wsX11_lose wsX11_isGuest := goodIn_sub (sub_c (nq_m (n := 7) rfl) (sub_c (nq_m (n := 8) rfl) (sub_c (nq_m (n := 9) rfl) (sub_c (nq_m (n := 10) rfl) (sub_c (nq_m (n := 6) rfl) (sub_c (nq_m (n := 11) rfl) (sub_c (nq_m (n := 17) rfl) (sub_c (nq_m (n := 18) rfl) (sub_c (nq_m (n := 19) rfl) (sub_c (nq_m (n := 20) rfl) (sub_c (nq_m (n := 21) rfl) (sub_c (nq_m (n := 22) rfl) (sub_c (nq_m (n := 23) rfl) (sub_c (nq_m (n := 24) rfl) (sub_c (nq_m (n := 25) rfl) (sub_c (nq_m (n := 26) rfl) (sub_c (nq_m (n := 27) rfl) (sub_c (nq_m (n := 28) rfl) (sub_c (nq_m (n := 29) rfl) (sub_c (nq_m (n := 30) rfl) (sub_c (nq_m (n := 31) rfl) (sub_c (nq_m (n := 32) rfl) (sub_c (nq_m (n := 33) rfl) (sub_c (nq_m (n := 34) rfl) (sub_c (nq_m (n := 35) rfl) (sub_c (nq_m (n := 36) rfl) (sub_c (nq_m (n := 37) rfl) (sub_c (nq_m (n := 38) rfl) (sub_c (nq_m (n := 39) rfl) (sub_c (nq_m (n := 40) rfl) (sub_c (nq_m (n := 41) rfl) (sub_c (nq_m (n := 42) rfl) (sub_c (nq_m (n := 43) rfl) (sub_c (nq_m (n := 44) rfl) (sub_c (nq_m (n := 45) rfl) (sub_c (nq_m (n := 46) rfl) (sub_c (nq_m (n := 47) rfl) (sub_c (nq_m (n := 48) rfl) (sub_c (nq_m (n := 49) rfl) (sub_c (nq_m (n := 50) rfl) (sub_c (nq_m (n := 51) rfl) (sub_c (nq_m (n := 52) rfl) (sub_c (nq_m (n := 53) rfl) (sub_c (nq_m (n := 54) rfl) (sub_c (nq_m (n := 55) rfl) (sub_c (nq_m (n := 56) rfl) (sub_c (nq_m (n := 57) rfl) (sub_c (nq_m (n := 58) rfl) (sub_c (nq_m (n := 59) rfl) (sub_c (nq_m (n := 60) rfl) (sub_c (nq_m (n := 61) rfl) (sub_c (nq_m (n := 62) rfl) (sub_c (nq_m (n := 63) rfl) (sub_c (nq_m (n := 64) rfl) (sub_c (nq_m (n := 65) rfl) (sub_c (nq_m (n := 66) rfl) (sub_c (nq_m (n := 67) rfl) (sub_c (nq_m (n := 68) rfl) (sub_c (nq_m (n := 69) rfl) (sub_c (nq_m (n := 70) rfl) (sub_c (nq_m (n := 71) rfl) (sub_c (nq_m (n := 72) rfl) (sub_c (nq_m (n := 73) rfl) (sub_c (nq_m (n := 74) rfl) sub_n)))))))))))))))))))))))))))))))))))))))))))))))))))))))))))))))) (by decide +kernel)
set_option maxRecDepth 100000 in
theorem gX11_lose_X11_isGuest : GoodIn wsX11_lose (wsV RX11 255 RX11 yX11_isGuest wsX11_isGuest) := goodIn_app (goodIn_sub (sub_c (nq_m (n := 3) rfl) (sub_c (nq_m (n := 4) rfl) (sub_c (nq_m (n := 5) rfl) (sub_c (nq_m (n := 6) rfl) sub_n)))) (by decide +kernel)) ggX11_lose_X11_isGuest
set_option maxRecDepth 100000 in
theorem ggX11_lose_X11_addEvent : GoodIn wsX11_lose wsX11_addEvent := goodIn_sub (sub_c (nq_m (n := 15) rfl) (sub_c (nq_m (n := 2) rfl) (sub_c (nq_m (n := 16) rfl) (sub_c (nq_m (n := 17) rfl) (sub_c (nq_m (n := 18) rfl) (sub_c (nq_m (n := 19) rfl) (sub_c (nq_m (n := 20) rfl) (sub_c (nq_m (n := 21) rfl) (sub_c (nq_m (n := 22) rfl) (sub_c (nq_m (n := 23) rfl) (sub_c (nq_m (n := 24) rfl) (sub_c (nq_m (n := 25) rfl) (sub_c (nq_m (n := 26) rfl) (sub_c (nq_m (n := 27) rfl) (sub_c (nq_m (n := 28) rfl) (sub_c (nq_m (n := 29) rfl) (sub_c (nq_m (n := 30) rfl) (sub_c (nq_m (n := 31) rfl) (sub_c (nq_m (n := 32) rfl) (sub_c (nq_m (n := 33) rfl) (sub_c (nq_m (n := 34) rfl) (sub_c (nq_m (n := 35) rfl) (sub_c (nq_m (n := 36) rfl) (sub_c (nq_m (n := 37) rfl) (sub_c (nq_m (n := 38) rfl) (sub_c (nq_m (n := 39) rfl) (sub_c (nq_m (n := 40) rfl) (sub_c (nq_m (n := 41) rfl) (sub_c (nq_m (n := 42) rfl) (sub_c (nq_m (n := 43) rfl) (sub_c (nq_m (n := 44) rfl) (sub_c (nq_m (n := 45) rfl) (sub_c (nq_m (n := 46) rfl) (sub_c (nq_m (n := 47) rfl) (sub_c (nq_m (n := 48) rfl) (sub_c (nq_m (n := 49) rfl) (sub_c (nq_m (n := 50) rfl) (sub_c (nq_m (n := 51) rfl) (sub_c (nq_m (n := 52) rfl) (sub_c (nq_m (n := 53) rfl) (sub_c (nq_m (n := 54) rfl) (sub_c (nq_m (n := 55) rfl) (sub_c (nq_m (n := 56) rfl) (sub_c (nq_m (n := 57) rfl) (sub_c (nq_m (n := 58) rfl) (sub_c (nq_m (n := 59) rfl) (sub_c (nq_m (n := 60) rfl) (sub_c (nq_m (n := 61) rfl) (sub_c (nq_m (n := 62) rfl) (sub_c (nq_m (n := 63) rfl) (sub_c (nq_m (n := 64) rfl) (sub_c (nq_m (n := 65) rfl) (sub_c (nq_m (n := 66) rfl) (sub_c (nq_m (n := 67) rfl) (sub_c (nq_m (n := 68) rfl) (sub_c (nq_m (n := 69) rfl) (sub_c (nq_m (n := 70) rfl) (sub_c (nq_m (n := 71) rfl) (sub_c (nq_m (n := 72) rfl) (sub_c (nq_m (n := 73) rfl) (sub_c (nq_m (n := 74) rfl) sub_n))))))))))))))))))))))))))))))))))))))))))))))))))))))))))))) (by decide +kernel)
set_option maxRecDepth 100000 in
theorem gX11_lose_X11_addEvent : GoodIn wsX11_lose (wsV RX11 295 RX11 yX11_addEvent wsX11_addEvent) := goodIn_app (goodIn_sub (sub_c (nq_m (n := 12) rfl) (sub_c (nq_m (n := 13) rfl) (sub_c (nq_m (n := 14) rfl) (sub_c (nq_m (n := 6) rfl) sub_n)))) (by decide +kernel)) ggX11_lose_X11_addEvent
noncomputable def dX11_lose_0_l : List (Nat × Instr × Nat) := [(0, .aload_n 0, 1), (1, .iload_n 1, 1), (2, .invokevirtual 255, 3), (5, .ifCond .ne 7, 3), (8, .sipush (-1001), 3), (11, .ireturn, 1), (12, .aload_n 0, 1), (13, .getfield 56, 3), (16, .iload_n 1, 1), (17, .iaload, 1), (18, .ifCond .ge 7, 3), (21, .sipush (-1003), 3), (24, .ireturn, 1), (25, .aload_n 0, 1), (26, .getfield 215, 3), (29, .bipush 60, 2), (31, .if_icmp .ne 7, 3), (34, .sipush (-1004), 3), (37, .ireturn, 1), (38, .aload_n 0, 1), (39, .getfield 56, 3), (42, .iload_n 1, 1), (43, .iaload, 1), (44, .istore_n 2, 1), (45, .aload_n 0, 1), (46, .getfield 56, 3), (49, .iload_n 1, 1), (50, .iconst (-1), 1), (51, .iastore, 1), (52, .aload_n 0, 1), (53, .iconst 2, 1), (54, .iconst (-1), 1), (55, .iload_n 1, 1), (56, .iconst (-1), 1), (57, .iload_n 2, 1), (58, .iconst (-1), 1), (59, .iconst 0, 1), (60, .invokevirtual 295, 3), (63, .ireturn, 1)]
set_option maxRecDepth 100000 in
theorem dX11_lose_0_g : dX11_lose_0_l.all (fun x => decide (decode cX11_lose x.1 = .ok x.2)) = true := by decide +kernel
theorem dX11_lose_0 : decode cX11_lose 0 = .ok (.aload_n 0, 1) := nq_d dX11_lose_0_g (n := 0) rfl
theorem dX11_lose_1 : decode cX11_lose 1 = .ok (.iload_n 1, 1) := nq_d dX11_lose_0_g (n := 1) rfl
theorem dX11_lose_2 : decode cX11_lose 2 = .ok (.invokevirtual 255, 3) := nq_d dX11_lose_0_g (n := 2) rfl
theorem dX11_lose_5 : decode cX11_lose 5 = .ok (.ifCond .ne 7, 3) := nq_d dX11_lose_0_g (n := 3) rfl
theorem dX11_lose_8 : decode cX11_lose 8 = .ok (.sipush (-1001), 3) := nq_d dX11_lose_0_g (n := 4) rfl
theorem dX11_lose_11 : decode cX11_lose 11 = .ok (.ireturn, 1) := nq_d dX11_lose_0_g (n := 5) rfl
theorem dX11_lose_12 : decode cX11_lose 12 = .ok (.aload_n 0, 1) := nq_d dX11_lose_0_g (n := 6) rfl
theorem dX11_lose_13 : decode cX11_lose 13 = .ok (.getfield 56, 3) := nq_d dX11_lose_0_g (n := 7) rfl
theorem dX11_lose_16 : decode cX11_lose 16 = .ok (.iload_n 1, 1) := nq_d dX11_lose_0_g (n := 8) rfl
theorem dX11_lose_17 : decode cX11_lose 17 = .ok (.iaload, 1) := nq_d dX11_lose_0_g (n := 9) rfl
theorem dX11_lose_18 : decode cX11_lose 18 = .ok (.ifCond .ge 7, 3) := nq_d dX11_lose_0_g (n := 10) rfl
theorem dX11_lose_21 : decode cX11_lose 21 = .ok (.sipush (-1003), 3) := nq_d dX11_lose_0_g (n := 11) rfl
theorem dX11_lose_24 : decode cX11_lose 24 = .ok (.ireturn, 1) := nq_d dX11_lose_0_g (n := 12) rfl
theorem dX11_lose_25 : decode cX11_lose 25 = .ok (.aload_n 0, 1) := nq_d dX11_lose_0_g (n := 13) rfl
theorem dX11_lose_26 : decode cX11_lose 26 = .ok (.getfield 215, 3) := nq_d dX11_lose_0_g (n := 14) rfl
theorem dX11_lose_29 : decode cX11_lose 29 = .ok (.bipush 60, 2) := nq_d dX11_lose_0_g (n := 15) rfl
theorem dX11_lose_31 : decode cX11_lose 31 = .ok (.if_icmp .ne 7, 3) := nq_d dX11_lose_0_g (n := 16) rfl
theorem dX11_lose_34 : decode cX11_lose 34 = .ok (.sipush (-1004), 3) := nq_d dX11_lose_0_g (n := 17) rfl
theorem dX11_lose_37 : decode cX11_lose 37 = .ok (.ireturn, 1) := nq_d dX11_lose_0_g (n := 18) rfl
theorem dX11_lose_38 : decode cX11_lose 38 = .ok (.aload_n 0, 1) := nq_d dX11_lose_0_g (n := 19) rfl
theorem dX11_lose_39 : decode cX11_lose 39 = .ok (.getfield 56, 3) := nq_d dX11_lose_0_g (n := 20) rfl
theorem dX11_lose_42 : decode cX11_lose 42 = .ok (.iload_n 1, 1) := nq_d dX11_lose_0_g (n := 21) rfl
theorem dX11_lose_43 : decode cX11_lose 43 = .ok (.iaload, 1) := nq_d dX11_lose_0_g (n := 22) rfl
theorem dX11_lose_44 : decode cX11_lose 44 = .ok (.istore_n 2, 1) := nq_d dX11_lose_0_g (n := 23) rfl
theorem dX11_lose_45 : decode cX11_lose 45 = .ok (.aload_n 0, 1) := nq_d dX11_lose_0_g (n := 24) rfl
theorem dX11_lose_46 : decode cX11_lose 46 = .ok (.getfield 56, 3) := nq_d dX11_lose_0_g (n := 25) rfl
theorem dX11_lose_49 : decode cX11_lose 49 = .ok (.iload_n 1, 1) := nq_d dX11_lose_0_g (n := 26) rfl
theorem dX11_lose_50 : decode cX11_lose 50 = .ok (.iconst (-1), 1) := nq_d dX11_lose_0_g (n := 27) rfl
theorem dX11_lose_51 : decode cX11_lose 51 = .ok (.iastore, 1) := nq_d dX11_lose_0_g (n := 28) rfl
theorem dX11_lose_52 : decode cX11_lose 52 = .ok (.aload_n 0, 1) := nq_d dX11_lose_0_g (n := 29) rfl
theorem dX11_lose_53 : decode cX11_lose 53 = .ok (.iconst 2, 1) := nq_d dX11_lose_0_g (n := 30) rfl
theorem dX11_lose_54 : decode cX11_lose 54 = .ok (.iconst (-1), 1) := nq_d dX11_lose_0_g (n := 31) rfl
theorem dX11_lose_55 : decode cX11_lose 55 = .ok (.iload_n 1, 1) := nq_d dX11_lose_0_g (n := 32) rfl
theorem dX11_lose_56 : decode cX11_lose 56 = .ok (.iconst (-1), 1) := nq_d dX11_lose_0_g (n := 33) rfl
theorem dX11_lose_57 : decode cX11_lose 57 = .ok (.iload_n 2, 1) := nq_d dX11_lose_0_g (n := 34) rfl
theorem dX11_lose_58 : decode cX11_lose 58 = .ok (.iconst (-1), 1) := nq_d dX11_lose_0_g (n := 35) rfl
theorem dX11_lose_59 : decode cX11_lose 59 = .ok (.iconst 0, 1) := nq_d dX11_lose_0_g (n := 36) rfl
theorem dX11_lose_60 : decode cX11_lose 60 = .ok (.invokevirtual 295, 3) := nq_d dX11_lose_0_g (n := 37) rfl
theorem dX11_lose_63 : decode cX11_lose 63 = .ok (.ireturn, 1) := nq_d dX11_lose_0_g (n := 38) rfl
set_option maxRecDepth 100000 in
theorem ggX11_event_X11_in : GoodIn wsX11_event wsX11_in := goodIn_sub (sub_c (nq_m (n := 7) rfl) sub_n) (by decide +kernel)
set_option maxRecDepth 100000 in
theorem gX11_event_X11_in : GoodIn wsX11_event (va_wsS RX11 126 yX11_in wsX11_in) := goodIn_app (goodIn_sub (sub_c (nq_m (n := 4) rfl) (sub_c (nq_m (n := 5) rfl) (sub_c (nq_m (n := 6) rfl) sub_n))) (by decide +kernel)) ggX11_event_X11_in
noncomputable def dX11_event_0_l : List (Nat × Instr × Nat) := [(0, .iload_n 1, 1), (1, .i2l, 1), (2, .lconst 0, 1), (3, .aload_n 0, 1), (4, .getfield 215, 3), (7, .iconst 1, 1), (8, .isub, 1), (9, .i2l, 1), (10, .invokestatic 126, 3), (13, .ifCond .ne 7, 3), (16, .sipush (-1001), 3), (19, .ireturn, 1), (20, .iload_n 2, 1), (21, .i2l, 1), (22, .lconst 0, 1), (23, .ldc2_w 299, 3), (26, .invokestatic 126, 3), (29, .ifCond .eq 17, 3), (32, .aload_n 0, 1), (33, .getfield 84, 3), (36, .bipush 7, 2), (38, .iload_n 1, 1), (39, .imul, 1), (40, .iload_n 2, 1), (41, .iadd, 1), (42, .iaload, 1), (43, .goto 6, 3), (46, .sipush (-1002), 3), (49, .ireturn, 1)]
set_option maxRecDepth 100000 in
theorem dX11_event_0_g : dX11_event_0_l.all (fun x => decide (decode cX11_event x.1 = .ok x.2)) = true := by decide +kernel
theorem dX11_event_0 : decode cX11_event 0 = .ok (.iload_n 1, 1) := nq_d dX11_event_0_g (n := 0) rfl
theorem dX11_event_1 : decode cX11_event 1 = .ok (.i2l, 1) := nq_d dX11_event_0_g (n := 1) rfl
theorem dX11_event_2 : decode cX11_event 2 = .ok (.lconst 0, 1) := nq_d dX11_event_0_g (n := 2) rfl
theorem dX11_event_3 : decode cX11_event 3 = .ok (.aload_n 0, 1) := nq_d dX11_event_0_g (n := 3) rfl
theorem dX11_event_4 : decode cX11_event 4 = .ok (.getfield 215, 3) := nq_d dX11_event_0_g (n := 4) rfl
theorem dX11_event_7 : decode cX11_event 7 = .ok (.iconst 1, 1) := nq_d dX11_event_0_g (n := 5) rfl
theorem dX11_event_8 : decode cX11_event 8 = .ok (.isub, 1) := nq_d dX11_event_0_g (n := 6) rfl
theorem dX11_event_9 : decode cX11_event 9 = .ok (.i2l, 1) := nq_d dX11_event_0_g (n := 7) rfl
theorem dX11_event_10 : decode cX11_event 10 = .ok (.invokestatic 126, 3) := nq_d dX11_event_0_g (n := 8) rfl
theorem dX11_event_13 : decode cX11_event 13 = .ok (.ifCond .ne 7, 3) := nq_d dX11_event_0_g (n := 9) rfl
theorem dX11_event_16 : decode cX11_event 16 = .ok (.sipush (-1001), 3) := nq_d dX11_event_0_g (n := 10) rfl
theorem dX11_event_19 : decode cX11_event 19 = .ok (.ireturn, 1) := nq_d dX11_event_0_g (n := 11) rfl
theorem dX11_event_20 : decode cX11_event 20 = .ok (.iload_n 2, 1) := nq_d dX11_event_0_g (n := 12) rfl
theorem dX11_event_21 : decode cX11_event 21 = .ok (.i2l, 1) := nq_d dX11_event_0_g (n := 13) rfl
theorem dX11_event_22 : decode cX11_event 22 = .ok (.lconst 0, 1) := nq_d dX11_event_0_g (n := 14) rfl
theorem dX11_event_23 : decode cX11_event 23 = .ok (.ldc2_w 299, 3) := nq_d dX11_event_0_g (n := 15) rfl
theorem dX11_event_26 : decode cX11_event 26 = .ok (.invokestatic 126, 3) := nq_d dX11_event_0_g (n := 16) rfl
theorem dX11_event_29 : decode cX11_event 29 = .ok (.ifCond .eq 17, 3) := nq_d dX11_event_0_g (n := 17) rfl
theorem dX11_event_32 : decode cX11_event 32 = .ok (.aload_n 0, 1) := nq_d dX11_event_0_g (n := 18) rfl
theorem dX11_event_33 : decode cX11_event 33 = .ok (.getfield 84, 3) := nq_d dX11_event_0_g (n := 19) rfl
theorem dX11_event_36 : decode cX11_event 36 = .ok (.bipush 7, 2) := nq_d dX11_event_0_g (n := 20) rfl
theorem dX11_event_38 : decode cX11_event 38 = .ok (.iload_n 1, 1) := nq_d dX11_event_0_g (n := 21) rfl
theorem dX11_event_39 : decode cX11_event 39 = .ok (.imul, 1) := nq_d dX11_event_0_g (n := 22) rfl
theorem dX11_event_40 : decode cX11_event 40 = .ok (.iload_n 2, 1) := nq_d dX11_event_0_g (n := 23) rfl
theorem dX11_event_41 : decode cX11_event 41 = .ok (.iadd, 1) := nq_d dX11_event_0_g (n := 24) rfl
theorem dX11_event_42 : decode cX11_event 42 = .ok (.iaload, 1) := nq_d dX11_event_0_g (n := 25) rfl
theorem dX11_event_43 : decode cX11_event 43 = .ok (.goto 6, 3) := nq_d dX11_event_0_g (n := 26) rfl
theorem dX11_event_46 : decode cX11_event 46 = .ok (.sipush (-1002), 3) := nq_d dX11_event_0_g (n := 27) rfl
theorem dX11_event_49 : decode cX11_event 49 = .ok (.ireturn, 1) := nq_d dX11_event_0_g (n := 28) rfl
noncomputable def dX11_isAstray_0_l : List (Nat × Instr × Nat) := [(0, .aload_n 0, 1), (1, .getfield 59, 3), (4, .iload_n 1, 1), (5, .iaload, 1), (6, .ifCond .lt 17, 3), (9, .aload_n 0, 1), (10, .getfield 59, 3), (13, .iload_n 1, 1), (14, .iaload, 1), (15, .iload_n 1, 1), (16, .if_icmp .eq 7, 3), (19, .iconst 1, 1), (20, .goto 4, 3), (23, .iconst 0, 1), (24, .ireturn, 1)]
set_option maxRecDepth 100000 in
theorem dX11_isAstray_0_g : dX11_isAstray_0_l.all (fun x => decide (decode cX11_isAstray x.1 = .ok x.2)) = true := by decide +kernel
theorem dX11_isAstray_0 : decode cX11_isAstray 0 = .ok (.aload_n 0, 1) := nq_d dX11_isAstray_0_g (n := 0) rfl
theorem dX11_isAstray_1 : decode cX11_isAstray 1 = .ok (.getfield 59, 3) := nq_d dX11_isAstray_0_g (n := 1) rfl
theorem dX11_isAstray_4 : decode cX11_isAstray 4 = .ok (.iload_n 1, 1) := nq_d dX11_isAstray_0_g (n := 2) rfl
theorem dX11_isAstray_5 : decode cX11_isAstray 5 = .ok (.iaload, 1) := nq_d dX11_isAstray_0_g (n := 3) rfl
theorem dX11_isAstray_6 : decode cX11_isAstray 6 = .ok (.ifCond .lt 17, 3) := nq_d dX11_isAstray_0_g (n := 4) rfl
theorem dX11_isAstray_9 : decode cX11_isAstray 9 = .ok (.aload_n 0, 1) := nq_d dX11_isAstray_0_g (n := 5) rfl
theorem dX11_isAstray_10 : decode cX11_isAstray 10 = .ok (.getfield 59, 3) := nq_d dX11_isAstray_0_g (n := 6) rfl
theorem dX11_isAstray_13 : decode cX11_isAstray 13 = .ok (.iload_n 1, 1) := nq_d dX11_isAstray_0_g (n := 7) rfl
theorem dX11_isAstray_14 : decode cX11_isAstray 14 = .ok (.iaload, 1) := nq_d dX11_isAstray_0_g (n := 8) rfl
theorem dX11_isAstray_15 : decode cX11_isAstray 15 = .ok (.iload_n 1, 1) := nq_d dX11_isAstray_0_g (n := 9) rfl
theorem dX11_isAstray_16 : decode cX11_isAstray 16 = .ok (.if_icmp .eq 7, 3) := nq_d dX11_isAstray_0_g (n := 10) rfl
theorem dX11_isAstray_19 : decode cX11_isAstray 19 = .ok (.iconst 1, 1) := nq_d dX11_isAstray_0_g (n := 11) rfl
theorem dX11_isAstray_20 : decode cX11_isAstray 20 = .ok (.goto 4, 3) := nq_d dX11_isAstray_0_g (n := 12) rfl
theorem dX11_isAstray_23 : decode cX11_isAstray 23 = .ok (.iconst 0, 1) := nq_d dX11_isAstray_0_g (n := 13) rfl
theorem dX11_isAstray_24 : decode cX11_isAstray 24 = .ok (.ireturn, 1) := nq_d dX11_isAstray_0_g (n := 14) rfl
set_option maxRecDepth 100000 in
theorem ggX11_astray_X11_isAstray : GoodIn wsX11_astray wsX11_isAstray := goodIn_sub (sub_c (nq_m (n := 6) rfl) (sub_c (nq_m (n := 7) rfl) (sub_c (nq_m (n := 8) rfl) (sub_c (nq_m (n := 9) rfl) (sub_c (nq_m (n := 10) rfl) (sub_c (nq_m (n := 11) rfl) (sub_c (nq_m (n := 12) rfl) (sub_c (nq_m (n := 13) rfl) (sub_c (nq_m (n := 14) rfl) (sub_c (nq_m (n := 15) rfl) (sub_c (nq_m (n := 16) rfl) (sub_c (nq_m (n := 17) rfl) (sub_c (nq_m (n := 18) rfl) (sub_c (nq_m (n := 19) rfl) (sub_c (nq_m (n := 20) rfl) (sub_c (nq_m (n := 21) rfl) (sub_c (nq_m (n := 22) rfl) (sub_c (nq_m (n := 23) rfl) (sub_c (nq_m (n := 24) rfl) (sub_c (nq_m (n := 25) rfl) (sub_c (nq_m (n := 26) rfl) (sub_c (nq_m (n := 27) rfl) (sub_c (nq_m (n := 28) rfl) (sub_c (nq_m (n := 29) rfl) (sub_c (nq_m (n := 30) rfl) (sub_c (nq_m (n := 31) rfl) (sub_c (nq_m (n := 32) rfl) (sub_c (nq_m (n := 33) rfl) (sub_c (nq_m (n := 34) rfl) (sub_c (nq_m (n := 35) rfl) (sub_c (nq_m (n := 36) rfl) (sub_c (nq_m (n := 37) rfl) (sub_c (nq_m (n := 38) rfl) (sub_c (nq_m (n := 39) rfl) (sub_c (nq_m (n := 40) rfl) (sub_c (nq_m (n := 41) rfl) (sub_c (nq_m (n := 42) rfl) (sub_c (nq_m (n := 43) rfl) (sub_c (nq_m (n := 44) rfl) (sub_c (nq_m (n := 45) rfl) (sub_c (nq_m (n := 46) rfl) (sub_c (nq_m (n := 47) rfl) (sub_c (nq_m (n := 48) rfl) (sub_c (nq_m (n := 49) rfl) (sub_c (nq_m (n := 50) rfl) (sub_c (nq_m (n := 51) rfl) (sub_c (nq_m (n := 52) rfl) (sub_c (nq_m (n := 53) rfl) (sub_c (nq_m (n := 54) rfl) (sub_c (nq_m (n := 55) rfl) (sub_c (nq_m (n := 56) rfl) (sub_c (nq_m (n := 57) rfl) (sub_c (nq_m (n := 58) rfl) (sub_c (nq_m (n := 59) rfl) (sub_c (nq_m (n := 60) rfl) (sub_c (nq_m (n := 61) rfl) (sub_c (nq_m (n := 62) rfl) (sub_c (nq_m (n := 63) rfl) (sub_c (nq_m (n := 64) rfl) (sub_c (nq_m (n := 65) rfl) sub_n)))))))))))))))))))))))))))))))))))))))))))))))))))))))))))) (by decide +kernel)
set_option maxRecDepth 100000 in
theorem gX11_astray_X11_isAstray : GoodIn wsX11_astray (wsV RX11 301 RX11 yX11_isAstray wsX11_isAstray) := goodIn_app (goodIn_sub (sub_c (nq_m (n := 2) rfl) (sub_c (nq_m (n := 3) rfl) (sub_c (nq_m (n := 4) rfl) (sub_c (nq_m (n := 5) rfl) sub_n)))) (by decide +kernel)) ggX11_astray_X11_isAstray
noncomputable def dX11_astray_0_l : List (Nat × Instr × Nat) := [(0, .iconst 0, 1), (1, .istore_n 1, 1), (2, .iconst 0, 1), (3, .istore_n 2, 1), (4, .iload_n 2, 1), (5, .aload_n 0, 1), (6, .getfield 227, 3), (9, .if_icmp .ge 27, 3), (12, .iload_n 1, 1), (13, .aload_n 0, 1), (14, .iload_n 2, 1), (15, .invokevirtual 301, 3), (18, .ifCond .eq 9, 3), (21, .iconst 1, 1), (22, .iload_n 2, 1), (23, .ishl, 1), (24, .goto 4, 3), (27, .iconst 0, 1), (28, .ior, 1), (29, .istore_n 1, 1), (30, .iinc 2 1, 3), (33, .goto (-29), 3), (36, .iload_n 1, 1), (37, .ireturn, 1)]
set_option maxRecDepth 100000 in
theorem dX11_astray_0_g : dX11_astray_0_l.all (fun x => decide (decode cX11_astray x.1 = .ok x.2)) = true := by decide +kernel
theorem dX11_astray_0 : decode cX11_astray 0 = .ok (.iconst 0, 1) := nq_d dX11_astray_0_g (n := 0) rfl
theorem dX11_astray_1 : decode cX11_astray 1 = .ok (.istore_n 1, 1) := nq_d dX11_astray_0_g (n := 1) rfl
theorem dX11_astray_2 : decode cX11_astray 2 = .ok (.iconst 0, 1) := nq_d dX11_astray_0_g (n := 2) rfl
theorem dX11_astray_3 : decode cX11_astray 3 = .ok (.istore_n 2, 1) := nq_d dX11_astray_0_g (n := 3) rfl
theorem dX11_astray_4 : decode cX11_astray 4 = .ok (.iload_n 2, 1) := nq_d dX11_astray_0_g (n := 4) rfl
theorem dX11_astray_5 : decode cX11_astray 5 = .ok (.aload_n 0, 1) := nq_d dX11_astray_0_g (n := 5) rfl
theorem dX11_astray_6 : decode cX11_astray 6 = .ok (.getfield 227, 3) := nq_d dX11_astray_0_g (n := 6) rfl
theorem dX11_astray_9 : decode cX11_astray 9 = .ok (.if_icmp .ge 27, 3) := nq_d dX11_astray_0_g (n := 7) rfl
theorem dX11_astray_12 : decode cX11_astray 12 = .ok (.iload_n 1, 1) := nq_d dX11_astray_0_g (n := 8) rfl
theorem dX11_astray_13 : decode cX11_astray 13 = .ok (.aload_n 0, 1) := nq_d dX11_astray_0_g (n := 9) rfl
theorem dX11_astray_14 : decode cX11_astray 14 = .ok (.iload_n 2, 1) := nq_d dX11_astray_0_g (n := 10) rfl
theorem dX11_astray_15 : decode cX11_astray 15 = .ok (.invokevirtual 301, 3) := nq_d dX11_astray_0_g (n := 11) rfl
theorem dX11_astray_18 : decode cX11_astray 18 = .ok (.ifCond .eq 9, 3) := nq_d dX11_astray_0_g (n := 12) rfl
theorem dX11_astray_21 : decode cX11_astray 21 = .ok (.iconst 1, 1) := nq_d dX11_astray_0_g (n := 13) rfl
theorem dX11_astray_22 : decode cX11_astray 22 = .ok (.iload_n 2, 1) := nq_d dX11_astray_0_g (n := 14) rfl
theorem dX11_astray_23 : decode cX11_astray 23 = .ok (.ishl, 1) := nq_d dX11_astray_0_g (n := 15) rfl
theorem dX11_astray_24 : decode cX11_astray 24 = .ok (.goto 4, 3) := nq_d dX11_astray_0_g (n := 16) rfl
theorem dX11_astray_27 : decode cX11_astray 27 = .ok (.iconst 0, 1) := nq_d dX11_astray_0_g (n := 17) rfl
theorem dX11_astray_28 : decode cX11_astray 28 = .ok (.ior, 1) := nq_d dX11_astray_0_g (n := 18) rfl
theorem dX11_astray_29 : decode cX11_astray 29 = .ok (.istore_n 1, 1) := nq_d dX11_astray_0_g (n := 19) rfl
theorem dX11_astray_30 : decode cX11_astray 30 = .ok (.iinc 2 1, 3) := nq_d dX11_astray_0_g (n := 20) rfl
theorem dX11_astray_33 : decode cX11_astray 33 = .ok (.goto (-29), 3) := nq_d dX11_astray_0_g (n := 21) rfl
theorem dX11_astray_36 : decode cX11_astray 36 = .ok (.iload_n 1, 1) := nq_d dX11_astray_0_g (n := 22) rfl
theorem dX11_astray_37 : decode cX11_astray 37 = .ok (.ireturn, 1) := nq_d dX11_astray_0_g (n := 23) rfl
noncomputable def dX11_findChain_0_l : List (Nat × Instr × Nat) := [(0, .aload_n 0, 1), (1, .getfield 87, 3), (4, .iconst 0, 1), (5, .iload_n 1, 1), (6, .iastore, 1), (7, .aload_n 0, 1), (8, .iconst 1, 1), (9, .putfield 304, 3), (12, .aload_n 0, 1), (13, .getfield 59, 3), (16, .iload_n 1, 1), (17, .iaload, 1), (18, .istore_n 2, 1), (19, .iload_n 2, 1), (20, .ifCond .lt 38, 3), (23, .iload_n 2, 1), (24, .iload_n 1, 1), (25, .if_icmp .eq 33, 3), (28, .aload_n 0, 1), (29, .getfield 87, 3), (32, .aload_n 0, 1), (33, .getfield 304, 3), (36, .iload_n 2, 1), (37, .iastore, 1), (38, .aload_n 0, 1), (39, .dup, 1), (40, .getfield 304, 3), (43, .iconst 1, 1), (44, .iadd, 1), (45, .putfield 304, 3), (48, .aload_n 0, 1), (49, .getfield 59, 3), (52, .iload_n 2, 1), (53, .iaload, 1), (54, .istore_n 2, 1), (55, .goto (-36), 3), (58, .aload_n 0, 1), (59, .iload_n 2, 1), (60, .iload_n 1, 1), (61, .if_icmp .ne 7, 3)]
set_option maxRecDepth 100000 in
theorem dX11_findChain_0_g : dX11_findChain_0_l.all (fun x => decide (decode cX11_findChain x.1 = .ok x.2)) = true := by decide +kernel
theorem dX11_findChain_0 : decode cX11_findChain 0 = .ok (.aload_n 0, 1) := nq_d dX11_findChain_0_g (n := 0) rfl
theorem dX11_findChain_1 : decode cX11_findChain 1 = .ok (.getfield 87, 3) := nq_d dX11_findChain_0_g (n := 1) rfl
theorem dX11_findChain_4 : decode cX11_findChain 4 = .ok (.iconst 0, 1) := nq_d dX11_findChain_0_g (n := 2) rfl
theorem dX11_findChain_5 : decode cX11_findChain 5 = .ok (.iload_n 1, 1) := nq_d dX11_findChain_0_g (n := 3) rfl
theorem dX11_findChain_6 : decode cX11_findChain 6 = .ok (.iastore, 1) := nq_d dX11_findChain_0_g (n := 4) rfl
theorem dX11_findChain_7 : decode cX11_findChain 7 = .ok (.aload_n 0, 1) := nq_d dX11_findChain_0_g (n := 5) rfl
theorem dX11_findChain_8 : decode cX11_findChain 8 = .ok (.iconst 1, 1) := nq_d dX11_findChain_0_g (n := 6) rfl
theorem dX11_findChain_9 : decode cX11_findChain 9 = .ok (.putfield 304, 3) := nq_d dX11_findChain_0_g (n := 7) rfl
theorem dX11_findChain_12 : decode cX11_findChain 12 = .ok (.aload_n 0, 1) := nq_d dX11_findChain_0_g (n := 8) rfl
theorem dX11_findChain_13 : decode cX11_findChain 13 = .ok (.getfield 59, 3) := nq_d dX11_findChain_0_g (n := 9) rfl
theorem dX11_findChain_16 : decode cX11_findChain 16 = .ok (.iload_n 1, 1) := nq_d dX11_findChain_0_g (n := 10) rfl
theorem dX11_findChain_17 : decode cX11_findChain 17 = .ok (.iaload, 1) := nq_d dX11_findChain_0_g (n := 11) rfl
theorem dX11_findChain_18 : decode cX11_findChain 18 = .ok (.istore_n 2, 1) := nq_d dX11_findChain_0_g (n := 12) rfl
theorem dX11_findChain_19 : decode cX11_findChain 19 = .ok (.iload_n 2, 1) := nq_d dX11_findChain_0_g (n := 13) rfl
theorem dX11_findChain_20 : decode cX11_findChain 20 = .ok (.ifCond .lt 38, 3) := nq_d dX11_findChain_0_g (n := 14) rfl
theorem dX11_findChain_23 : decode cX11_findChain 23 = .ok (.iload_n 2, 1) := nq_d dX11_findChain_0_g (n := 15) rfl
theorem dX11_findChain_24 : decode cX11_findChain 24 = .ok (.iload_n 1, 1) := nq_d dX11_findChain_0_g (n := 16) rfl
theorem dX11_findChain_25 : decode cX11_findChain 25 = .ok (.if_icmp .eq 33, 3) := nq_d dX11_findChain_0_g (n := 17) rfl
theorem dX11_findChain_28 : decode cX11_findChain 28 = .ok (.aload_n 0, 1) := nq_d dX11_findChain_0_g (n := 18) rfl
theorem dX11_findChain_29 : decode cX11_findChain 29 = .ok (.getfield 87, 3) := nq_d dX11_findChain_0_g (n := 19) rfl
theorem dX11_findChain_32 : decode cX11_findChain 32 = .ok (.aload_n 0, 1) := nq_d dX11_findChain_0_g (n := 20) rfl
theorem dX11_findChain_33 : decode cX11_findChain 33 = .ok (.getfield 304, 3) := nq_d dX11_findChain_0_g (n := 21) rfl
theorem dX11_findChain_36 : decode cX11_findChain 36 = .ok (.iload_n 2, 1) := nq_d dX11_findChain_0_g (n := 22) rfl
theorem dX11_findChain_37 : decode cX11_findChain 37 = .ok (.iastore, 1) := nq_d dX11_findChain_0_g (n := 23) rfl
theorem dX11_findChain_38 : decode cX11_findChain 38 = .ok (.aload_n 0, 1) := nq_d dX11_findChain_0_g (n := 24) rfl
theorem dX11_findChain_39 : decode cX11_findChain 39 = .ok (.dup, 1) := nq_d dX11_findChain_0_g (n := 25) rfl
theorem dX11_findChain_40 : decode cX11_findChain 40 = .ok (.getfield 304, 3) := nq_d dX11_findChain_0_g (n := 26) rfl
theorem dX11_findChain_43 : decode cX11_findChain 43 = .ok (.iconst 1, 1) := nq_d dX11_findChain_0_g (n := 27) rfl
theorem dX11_findChain_44 : decode cX11_findChain 44 = .ok (.iadd, 1) := nq_d dX11_findChain_0_g (n := 28) rfl
theorem dX11_findChain_45 : decode cX11_findChain 45 = .ok (.putfield 304, 3) := nq_d dX11_findChain_0_g (n := 29) rfl
theorem dX11_findChain_48 : decode cX11_findChain 48 = .ok (.aload_n 0, 1) := nq_d dX11_findChain_0_g (n := 30) rfl
theorem dX11_findChain_49 : decode cX11_findChain 49 = .ok (.getfield 59, 3) := nq_d dX11_findChain_0_g (n := 31) rfl
theorem dX11_findChain_52 : decode cX11_findChain 52 = .ok (.iload_n 2, 1) := nq_d dX11_findChain_0_g (n := 32) rfl
theorem dX11_findChain_53 : decode cX11_findChain 53 = .ok (.iaload, 1) := nq_d dX11_findChain_0_g (n := 33) rfl
theorem dX11_findChain_54 : decode cX11_findChain 54 = .ok (.istore_n 2, 1) := nq_d dX11_findChain_0_g (n := 34) rfl
theorem dX11_findChain_55 : decode cX11_findChain 55 = .ok (.goto (-36), 3) := nq_d dX11_findChain_0_g (n := 35) rfl
theorem dX11_findChain_58 : decode cX11_findChain 58 = .ok (.aload_n 0, 1) := nq_d dX11_findChain_0_g (n := 36) rfl
theorem dX11_findChain_59 : decode cX11_findChain 59 = .ok (.iload_n 2, 1) := nq_d dX11_findChain_0_g (n := 37) rfl
theorem dX11_findChain_60 : decode cX11_findChain 60 = .ok (.iload_n 1, 1) := nq_d dX11_findChain_0_g (n := 38) rfl
theorem dX11_findChain_61 : decode cX11_findChain 61 = .ok (.if_icmp .ne 7, 3) := nq_d dX11_findChain_0_g (n := 39) rfl
noncomputable def dX11_findChain_64_l : List (Nat × Instr × Nat) := [(64, .iconst 1, 1), (65, .goto 4, 3), (68, .iconst 0, 1), (69, .putfield 307, 3), (72, .return_, 1)]
set_option maxRecDepth 100000 in
theorem dX11_findChain_64_g : dX11_findChain_64_l.all (fun x => decide (decode cX11_findChain x.1 = .ok x.2)) = true := by decide +kernel
theorem dX11_findChain_64 : decode cX11_findChain 64 = .ok (.iconst 1, 1) := nq_d dX11_findChain_64_g (n := 0) rfl
theorem dX11_findChain_65 : decode cX11_findChain 65 = .ok (.goto 4, 3) := nq_d dX11_findChain_64_g (n := 1) rfl
theorem dX11_findChain_68 : decode cX11_findChain 68 = .ok (.iconst 0, 1) := nq_d dX11_findChain_64_g (n := 2) rfl
theorem dX11_findChain_69 : decode cX11_findChain 69 = .ok (.putfield 307, 3) := nq_d dX11_findChain_64_g (n := 3) rfl
theorem dX11_findChain_72 : decode cX11_findChain 72 = .ok (.return_, 1) := nq_d dX11_findChain_64_g (n := 4) rfl
set_option maxRecDepth 100000 in
theorem ggX11_chain_X11_isGuest : GoodIn wsX11_chain wsX11_isGuest := goodIn_sub (sub_c (nq_m (n := 7) rfl) (sub_c (nq_m (n := 8) rfl) (sub_c (nq_m (n := 9) rfl) (sub_c (nq_m (n := 10) rfl) (sub_c (nq_m (n := 6) rfl) (sub_c (nq_m (n := 11) rfl) (sub_c (nq_m (n := 22) rfl) (sub_c (nq_m (n := 23) rfl) (sub_c (nq_m (n := 24) rfl) (sub_c (nq_m (n := 25) rfl) (sub_c (nq_m (n := 26) rfl) (sub_c (nq_m (n := 27) rfl) (sub_c (nq_m (n := 28) rfl) (sub_c (nq_m (n := 29) rfl) (sub_c (nq_m (n := 30) rfl) (sub_c (nq_m (n := 31) rfl) (sub_c (nq_m (n := 32) rfl) (sub_c (nq_m (n := 33) rfl) (sub_c (nq_m (n := 34) rfl) (sub_c (nq_m (n := 35) rfl) (sub_c (nq_m (n := 36) rfl) (sub_c (nq_m (n := 37) rfl) (sub_c (nq_m (n := 38) rfl) (sub_c (nq_m (n := 39) rfl) (sub_c (nq_m (n := 40) rfl) (sub_c (nq_m (n := 41) rfl) (sub_c (nq_m (n := 42) rfl) (sub_c (nq_m (n := 43) rfl) (sub_c (nq_m (n := 44) rfl) (sub_c (nq_m (n := 45) rfl) (sub_c (nq_m (n := 46) rfl) (sub_c (nq_m (n := 47) rfl) (sub_c (nq_m (n := 48) rfl) (sub_c (nq_m (n := 49) rfl) (sub_c (nq_m (n := 50) rfl) (sub_c (nq_m (n := 51) rfl) (sub_c (nq_m (n := 52) rfl) (sub_c (nq_m (n := 53) rfl) (sub_c (nq_m (n := 54) rfl) (sub_c (nq_m (n := 55) rfl) (sub_c (nq_m (n := 56) rfl) (sub_c (nq_m (n := 57) rfl) (sub_c (nq_m (n := 58) rfl) (sub_c (nq_m (n := 59) rfl) (sub_c (nq_m (n := 60) rfl) (sub_c (nq_m (n := 61) rfl) (sub_c (nq_m (n := 62) rfl) (sub_c (nq_m (n := 63) rfl) (sub_c (nq_m (n := 64) rfl) (sub_c (nq_m (n := 65) rfl) (sub_c (nq_m (n := 66) rfl) (sub_c (nq_m (n := 67) rfl) (sub_c (nq_m (n := 68) rfl) (sub_c (nq_m (n := 69) rfl) (sub_c (nq_m (n := 70) rfl) (sub_c (nq_m (n := 71) rfl) (sub_c (nq_m (n := 72) rfl) (sub_c (nq_m (n := 73) rfl) (sub_c (nq_m (n := 74) rfl) (sub_c (nq_m (n := 75) rfl) (sub_c (nq_m (n := 76) rfl) (sub_c (nq_m (n := 77) rfl) (sub_c (nq_m (n := 78) rfl) (sub_c (nq_m (n := 79) rfl) sub_n)))))))))))))))))))))))))))))))))))))))))))))))))))))))))))))))) (by decide +kernel)
set_option maxRecDepth 100000 in
theorem gX11_chain_X11_isGuest : GoodIn wsX11_chain (wsV RX11 255 RX11 yX11_isGuest wsX11_isGuest) := goodIn_app (goodIn_sub (sub_c (nq_m (n := 3) rfl) (sub_c (nq_m (n := 4) rfl) (sub_c (nq_m (n := 5) rfl) (sub_c (nq_m (n := 6) rfl) sub_n)))) (by decide +kernel)) ggX11_chain_X11_isGuest
set_option maxRecDepth 100000 in
theorem ggX11_chain_X11_isAstray : GoodIn wsX11_chain wsX11_isAstray := goodIn_sub (sub_c (nq_m (n := 15) rfl) (sub_c (nq_m (n := 16) rfl) (sub_c (nq_m (n := 22) rfl) (sub_c (nq_m (n := 23) rfl) (sub_c (nq_m (n := 24) rfl) (sub_c (nq_m (n := 25) rfl) (sub_c (nq_m (n := 26) rfl) (sub_c (nq_m (n := 27) rfl) (sub_c (nq_m (n := 28) rfl) (sub_c (nq_m (n := 29) rfl) (sub_c (nq_m (n := 30) rfl) (sub_c (nq_m (n := 31) rfl) (sub_c (nq_m (n := 32) rfl) (sub_c (nq_m (n := 33) rfl) (sub_c (nq_m (n := 34) rfl) (sub_c (nq_m (n := 35) rfl) (sub_c (nq_m (n := 36) rfl) (sub_c (nq_m (n := 37) rfl) (sub_c (nq_m (n := 38) rfl) (sub_c (nq_m (n := 39) rfl) (sub_c (nq_m (n := 40) rfl) (sub_c (nq_m (n := 41) rfl) (sub_c (nq_m (n := 42) rfl) (sub_c (nq_m (n := 43) rfl) (sub_c (nq_m (n := 44) rfl) (sub_c (nq_m (n := 45) rfl) (sub_c (nq_m (n := 46) rfl) (sub_c (nq_m (n := 47) rfl) (sub_c (nq_m (n := 48) rfl) (sub_c (nq_m (n := 49) rfl) (sub_c (nq_m (n := 50) rfl) (sub_c (nq_m (n := 51) rfl) (sub_c (nq_m (n := 52) rfl) (sub_c (nq_m (n := 53) rfl) (sub_c (nq_m (n := 54) rfl) (sub_c (nq_m (n := 55) rfl) (sub_c (nq_m (n := 56) rfl) (sub_c (nq_m (n := 57) rfl) (sub_c (nq_m (n := 58) rfl) (sub_c (nq_m (n := 59) rfl) (sub_c (nq_m (n := 60) rfl) (sub_c (nq_m (n := 61) rfl) (sub_c (nq_m (n := 62) rfl) (sub_c (nq_m (n := 63) rfl) (sub_c (nq_m (n := 64) rfl) (sub_c (nq_m (n := 65) rfl) (sub_c (nq_m (n := 66) rfl) (sub_c (nq_m (n := 67) rfl) (sub_c (nq_m (n := 68) rfl) (sub_c (nq_m (n := 69) rfl) (sub_c (nq_m (n := 70) rfl) (sub_c (nq_m (n := 71) rfl) (sub_c (nq_m (n := 72) rfl) (sub_c (nq_m (n := 73) rfl) (sub_c (nq_m (n := 74) rfl) (sub_c (nq_m (n := 75) rfl) (sub_c (nq_m (n := 76) rfl) (sub_c (nq_m (n := 77) rfl) (sub_c (nq_m (n := 78) rfl) (sub_c (nq_m (n := 79) rfl) sub_n)))))))))))))))))))))))))))))))))))))))))))))))))))))))))))) (by decide +kernel)
set_option maxRecDepth 100000 in
theorem gX11_chain_X11_isAstray : GoodIn wsX11_chain (wsV RX11 301 RX11 yX11_isAstray wsX11_isAstray) := goodIn_app (goodIn_sub (sub_c (nq_m (n := 12) rfl) (sub_c (nq_m (n := 13) rfl) (sub_c (nq_m (n := 14) rfl) (sub_c (nq_m (n := 6) rfl) sub_n)))) (by decide +kernel)) ggX11_chain_X11_isAstray
set_option maxRecDepth 100000 in
theorem ggX11_chain_X11_findChain : GoodIn wsX11_chain wsX11_findChain := goodIn_sub (sub_c (nq_m (n := 20) rfl) (sub_c (nq_m (n := 2) rfl) (sub_c (nq_m (n := 1) rfl) (sub_c (nq_m (n := 16) rfl) (sub_c (nq_m (n := 21) rfl) (sub_c (nq_m (n := 22) rfl) (sub_c (nq_m (n := 23) rfl) (sub_c (nq_m (n := 24) rfl) (sub_c (nq_m (n := 25) rfl) (sub_c (nq_m (n := 26) rfl) (sub_c (nq_m (n := 27) rfl) (sub_c (nq_m (n := 28) rfl) (sub_c (nq_m (n := 29) rfl) (sub_c (nq_m (n := 30) rfl) (sub_c (nq_m (n := 31) rfl) (sub_c (nq_m (n := 32) rfl) (sub_c (nq_m (n := 33) rfl) (sub_c (nq_m (n := 34) rfl) (sub_c (nq_m (n := 35) rfl) (sub_c (nq_m (n := 36) rfl) (sub_c (nq_m (n := 37) rfl) (sub_c (nq_m (n := 38) rfl) (sub_c (nq_m (n := 39) rfl) (sub_c (nq_m (n := 40) rfl) (sub_c (nq_m (n := 41) rfl) (sub_c (nq_m (n := 42) rfl) (sub_c (nq_m (n := 43) rfl) (sub_c (nq_m (n := 44) rfl) (sub_c (nq_m (n := 45) rfl) (sub_c (nq_m (n := 46) rfl) (sub_c (nq_m (n := 47) rfl) (sub_c (nq_m (n := 48) rfl) (sub_c (nq_m (n := 49) rfl) (sub_c (nq_m (n := 50) rfl) (sub_c (nq_m (n := 51) rfl) (sub_c (nq_m (n := 52) rfl) (sub_c (nq_m (n := 53) rfl) (sub_c (nq_m (n := 54) rfl) (sub_c (nq_m (n := 55) rfl) (sub_c (nq_m (n := 56) rfl) (sub_c (nq_m (n := 57) rfl) (sub_c (nq_m (n := 58) rfl) (sub_c (nq_m (n := 59) rfl) (sub_c (nq_m (n := 60) rfl) (sub_c (nq_m (n := 61) rfl) (sub_c (nq_m (n := 62) rfl) (sub_c (nq_m (n := 63) rfl) (sub_c (nq_m (n := 64) rfl) (sub_c (nq_m (n := 65) rfl) (sub_c (nq_m (n := 66) rfl) (sub_c (nq_m (n := 67) rfl) (sub_c (nq_m (n := 68) rfl) (sub_c (nq_m (n := 69) rfl) (sub_c (nq_m (n := 70) rfl) (sub_c (nq_m (n := 71) rfl) (sub_c (nq_m (n := 72) rfl) (sub_c (nq_m (n := 73) rfl) (sub_c (nq_m (n := 74) rfl) (sub_c (nq_m (n := 75) rfl) (sub_c (nq_m (n := 76) rfl) (sub_c (nq_m (n := 77) rfl) (sub_c (nq_m (n := 78) rfl) (sub_c (nq_m (n := 79) rfl) sub_n))))))))))))))))))))))))))))))))))))))))))))))))))))))))))))))) (by decide +kernel)
set_option maxRecDepth 100000 in
theorem gX11_chain_X11_findChain : GoodIn wsX11_chain (wsV RX11 311 RX11 yX11_findChain wsX11_findChain) := goodIn_app (goodIn_sub (sub_c (nq_m (n := 17) rfl) (sub_c (nq_m (n := 18) rfl) (sub_c (nq_m (n := 19) rfl) (sub_c (nq_m (n := 6) rfl) sub_n)))) (by decide +kernel)) ggX11_chain_X11_findChain
set_option maxRecDepth 100000 in
theorem ggX11_chain_X11_in : GoodIn wsX11_chain wsX11_in := goodIn_sub (sub_c (nq_m (n := 11) rfl) sub_n) (by decide +kernel)
set_option maxRecDepth 100000 in
theorem gX11_chain_X11_in : GoodIn wsX11_chain (va_wsS RX11 126 yX11_in wsX11_in) := goodIn_app (goodIn_sub (sub_c (nq_m (n := 9) rfl) (sub_c (nq_m (n := 10) rfl) (sub_c (nq_m (n := 6) rfl) sub_n))) (by decide +kernel)) ggX11_chain_X11_in
noncomputable def dX11_chain_0_l : List (Nat × Instr × Nat) := [(0, .aload_n 0, 1), (1, .iload_n 1, 1), (2, .invokevirtual 255, 3), (5, .ifCond .ne 7, 3), (8, .sipush (-1001), 3), (11, .ireturn, 1), (12, .aload_n 0, 1), (13, .iload_n 1, 1), (14, .invokevirtual 301, 3), (17, .ifCond .ne 7, 3), (20, .sipush (-1003), 3), (23, .ireturn, 1), (24, .aload_n 0, 1), (25, .iload_n 1, 1), (26, .invokevirtual 311, 3), (29, .iload_n 2, 1), (30, .iconst (-1), 1), (31, .if_icmp .ne 10, 3), (34, .aload_n 0, 1), (35, .getfield 304, 3), (38, .goto 29, 3), (41, .iload_n 2, 1), (42, .i2l, 1), (43, .lconst 0, 1), (44, .aload_n 0, 1), (45, .getfield 304, 3), (48, .iconst 1, 1), (49, .isub, 1), (50, .i2l, 1), (51, .invokestatic 126, 3), (54, .ifCond .eq 12, 3), (57, .aload_n 0, 1), (58, .getfield 87, 3), (61, .iload_n 2, 1), (62, .iaload, 1), (63, .goto 4, 3), (66, .iconst (-1), 1), (67, .ireturn, 1)]
set_option maxRecDepth 100000 in
theorem dX11_chain_0_g : dX11_chain_0_l.all (fun x => decide (decode cX11_chain x.1 = .ok x.2)) = true := by decide +kernel
theorem dX11_chain_0 : decode cX11_chain 0 = .ok (.aload_n 0, 1) := nq_d dX11_chain_0_g (n := 0) rfl
theorem dX11_chain_1 : decode cX11_chain 1 = .ok (.iload_n 1, 1) := nq_d dX11_chain_0_g (n := 1) rfl
theorem dX11_chain_2 : decode cX11_chain 2 = .ok (.invokevirtual 255, 3) := nq_d dX11_chain_0_g (n := 2) rfl
theorem dX11_chain_5 : decode cX11_chain 5 = .ok (.ifCond .ne 7, 3) := nq_d dX11_chain_0_g (n := 3) rfl
theorem dX11_chain_8 : decode cX11_chain 8 = .ok (.sipush (-1001), 3) := nq_d dX11_chain_0_g (n := 4) rfl
theorem dX11_chain_11 : decode cX11_chain 11 = .ok (.ireturn, 1) := nq_d dX11_chain_0_g (n := 5) rfl
theorem dX11_chain_12 : decode cX11_chain 12 = .ok (.aload_n 0, 1) := nq_d dX11_chain_0_g (n := 6) rfl
theorem dX11_chain_13 : decode cX11_chain 13 = .ok (.iload_n 1, 1) := nq_d dX11_chain_0_g (n := 7) rfl
theorem dX11_chain_14 : decode cX11_chain 14 = .ok (.invokevirtual 301, 3) := nq_d dX11_chain_0_g (n := 8) rfl
theorem dX11_chain_17 : decode cX11_chain 17 = .ok (.ifCond .ne 7, 3) := nq_d dX11_chain_0_g (n := 9) rfl
theorem dX11_chain_20 : decode cX11_chain 20 = .ok (.sipush (-1003), 3) := nq_d dX11_chain_0_g (n := 10) rfl
theorem dX11_chain_23 : decode cX11_chain 23 = .ok (.ireturn, 1) := nq_d dX11_chain_0_g (n := 11) rfl
theorem dX11_chain_24 : decode cX11_chain 24 = .ok (.aload_n 0, 1) := nq_d dX11_chain_0_g (n := 12) rfl
theorem dX11_chain_25 : decode cX11_chain 25 = .ok (.iload_n 1, 1) := nq_d dX11_chain_0_g (n := 13) rfl
theorem dX11_chain_26 : decode cX11_chain 26 = .ok (.invokevirtual 311, 3) := nq_d dX11_chain_0_g (n := 14) rfl
theorem dX11_chain_29 : decode cX11_chain 29 = .ok (.iload_n 2, 1) := nq_d dX11_chain_0_g (n := 15) rfl
theorem dX11_chain_30 : decode cX11_chain 30 = .ok (.iconst (-1), 1) := nq_d dX11_chain_0_g (n := 16) rfl
theorem dX11_chain_31 : decode cX11_chain 31 = .ok (.if_icmp .ne 10, 3) := nq_d dX11_chain_0_g (n := 17) rfl
theorem dX11_chain_34 : decode cX11_chain 34 = .ok (.aload_n 0, 1) := nq_d dX11_chain_0_g (n := 18) rfl
theorem dX11_chain_35 : decode cX11_chain 35 = .ok (.getfield 304, 3) := nq_d dX11_chain_0_g (n := 19) rfl
theorem dX11_chain_38 : decode cX11_chain 38 = .ok (.goto 29, 3) := nq_d dX11_chain_0_g (n := 20) rfl
theorem dX11_chain_41 : decode cX11_chain 41 = .ok (.iload_n 2, 1) := nq_d dX11_chain_0_g (n := 21) rfl
theorem dX11_chain_42 : decode cX11_chain 42 = .ok (.i2l, 1) := nq_d dX11_chain_0_g (n := 22) rfl
theorem dX11_chain_43 : decode cX11_chain 43 = .ok (.lconst 0, 1) := nq_d dX11_chain_0_g (n := 23) rfl
theorem dX11_chain_44 : decode cX11_chain 44 = .ok (.aload_n 0, 1) := nq_d dX11_chain_0_g (n := 24) rfl
theorem dX11_chain_45 : decode cX11_chain 45 = .ok (.getfield 304, 3) := nq_d dX11_chain_0_g (n := 25) rfl
theorem dX11_chain_48 : decode cX11_chain 48 = .ok (.iconst 1, 1) := nq_d dX11_chain_0_g (n := 26) rfl
theorem dX11_chain_49 : decode cX11_chain 49 = .ok (.isub, 1) := nq_d dX11_chain_0_g (n := 27) rfl
theorem dX11_chain_50 : decode cX11_chain 50 = .ok (.i2l, 1) := nq_d dX11_chain_0_g (n := 28) rfl
theorem dX11_chain_51 : decode cX11_chain 51 = .ok (.invokestatic 126, 3) := nq_d dX11_chain_0_g (n := 29) rfl
theorem dX11_chain_54 : decode cX11_chain 54 = .ok (.ifCond .eq 12, 3) := nq_d dX11_chain_0_g (n := 30) rfl
theorem dX11_chain_57 : decode cX11_chain 57 = .ok (.aload_n 0, 1) := nq_d dX11_chain_0_g (n := 31) rfl
theorem dX11_chain_58 : decode cX11_chain 58 = .ok (.getfield 87, 3) := nq_d dX11_chain_0_g (n := 32) rfl
theorem dX11_chain_61 : decode cX11_chain 61 = .ok (.iload_n 2, 1) := nq_d dX11_chain_0_g (n := 33) rfl
theorem dX11_chain_62 : decode cX11_chain 62 = .ok (.iaload, 1) := nq_d dX11_chain_0_g (n := 34) rfl
theorem dX11_chain_63 : decode cX11_chain 63 = .ok (.goto 4, 3) := nq_d dX11_chain_0_g (n := 35) rfl
theorem dX11_chain_66 : decode cX11_chain 66 = .ok (.iconst (-1), 1) := nq_d dX11_chain_0_g (n := 36) rfl
theorem dX11_chain_67 : decode cX11_chain 67 = .ok (.ireturn, 1) := nq_d dX11_chain_0_g (n := 37) rfl
set_option maxRecDepth 100000 in
theorem ggX11_ring_X11_isGuest : GoodIn wsX11_ring wsX11_isGuest := goodIn_sub (sub_c (nq_m (n := 6) rfl) (sub_c (nq_m (n := 7) rfl) (sub_c (nq_m (n := 8) rfl) (sub_c (nq_m (n := 9) rfl) (sub_c (nq_m (n := 5) rfl) (sub_c (nq_m (n := 10) rfl) (sub_c (nq_m (n := 22) rfl) (sub_c (nq_m (n := 23) rfl) (sub_c (nq_m (n := 24) rfl) (sub_c (nq_m (n := 25) rfl) (sub_c (nq_m (n := 26) rfl) (sub_c (nq_m (n := 27) rfl) (sub_c (nq_m (n := 28) rfl) (sub_c (nq_m (n := 29) rfl) (sub_c (nq_m (n := 30) rfl) (sub_c (nq_m (n := 31) rfl) (sub_c (nq_m (n := 32) rfl) (sub_c (nq_m (n := 33) rfl) (sub_c (nq_m (n := 34) rfl) (sub_c (nq_m (n := 35) rfl) (sub_c (nq_m (n := 36) rfl) (sub_c (nq_m (n := 37) rfl) (sub_c (nq_m (n := 38) rfl) (sub_c (nq_m (n := 39) rfl) (sub_c (nq_m (n := 40) rfl) (sub_c (nq_m (n := 41) rfl) (sub_c (nq_m (n := 42) rfl) (sub_c (nq_m (n := 43) rfl) (sub_c (nq_m (n := 44) rfl) (sub_c (nq_m (n := 45) rfl) (sub_c (nq_m (n := 46) rfl) (sub_c (nq_m (n := 47) rfl) (sub_c (nq_m (n := 48) rfl) (sub_c (nq_m (n := 49) rfl) (sub_c (nq_m (n := 50) rfl) (sub_c (nq_m (n := 51) rfl) (sub_c (nq_m (n := 52) rfl) (sub_c (nq_m (n := 53) rfl) (sub_c (nq_m (n := 54) rfl) (sub_c (nq_m (n := 55) rfl) (sub_c (nq_m (n := 56) rfl) (sub_c (nq_m (n := 57) rfl) (sub_c (nq_m (n := 58) rfl) (sub_c (nq_m (n := 59) rfl) (sub_c (nq_m (n := 60) rfl) (sub_c (nq_m (n := 61) rfl) (sub_c (nq_m (n := 62) rfl) (sub_c (nq_m (n := 63) rfl) (sub_c (nq_m (n := 64) rfl) (sub_c (nq_m (n := 65) rfl) (sub_c (nq_m (n := 66) rfl) (sub_c (nq_m (n := 67) rfl) (sub_c (nq_m (n := 68) rfl) (sub_c (nq_m (n := 69) rfl) (sub_c (nq_m (n := 70) rfl) (sub_c (nq_m (n := 71) rfl) (sub_c (nq_m (n := 72) rfl) (sub_c (nq_m (n := 73) rfl) (sub_c (nq_m (n := 74) rfl) (sub_c (nq_m (n := 75) rfl) (sub_c (nq_m (n := 76) rfl) (sub_c (nq_m (n := 77) rfl) (sub_c (nq_m (n := 78) rfl) (sub_c (nq_m (n := 79) rfl) sub_n)))))))))))))))))))))))))))))))))))))))))))))))))))))))))))))))) (by decide +kernel)
set_option maxRecDepth 100000 in
theorem gX11_ring_X11_isGuest : GoodIn wsX11_ring (wsV RX11 255 RX11 yX11_isGuest wsX11_isGuest) := goodIn_app (goodIn_sub (sub_c (nq_m (n := 2) rfl) (sub_c (nq_m (n := 3) rfl) (sub_c (nq_m (n := 4) rfl) (sub_c (nq_m (n := 5) rfl) sub_n)))) (by decide +kernel)) ggX11_ring_X11_isGuest
set_option maxRecDepth 100000 in
theorem ggX11_ring_X11_isAstray : GoodIn wsX11_ring wsX11_isAstray := goodIn_sub (sub_c (nq_m (n := 14) rfl) (sub_c (nq_m (n := 15) rfl) (sub_c (nq_m (n := 22) rfl) (sub_c (nq_m (n := 23) rfl) (sub_c (nq_m (n := 24) rfl) (sub_c (nq_m (n := 25) rfl) (sub_c (nq_m (n := 26) rfl) (sub_c (nq_m (n := 27) rfl) (sub_c (nq_m (n := 28) rfl) (sub_c (nq_m (n := 29) rfl) (sub_c (nq_m (n := 30) rfl) (sub_c (nq_m (n := 31) rfl) (sub_c (nq_m (n := 32) rfl) (sub_c (nq_m (n := 33) rfl) (sub_c (nq_m (n := 34) rfl) (sub_c (nq_m (n := 35) rfl) (sub_c (nq_m (n := 36) rfl) (sub_c (nq_m (n := 37) rfl) (sub_c (nq_m (n := 38) rfl) (sub_c (nq_m (n := 39) rfl) (sub_c (nq_m (n := 40) rfl) (sub_c (nq_m (n := 41) rfl) (sub_c (nq_m (n := 42) rfl) (sub_c (nq_m (n := 43) rfl) (sub_c (nq_m (n := 44) rfl) (sub_c (nq_m (n := 45) rfl) (sub_c (nq_m (n := 46) rfl) (sub_c (nq_m (n := 47) rfl) (sub_c (nq_m (n := 48) rfl) (sub_c (nq_m (n := 49) rfl) (sub_c (nq_m (n := 50) rfl) (sub_c (nq_m (n := 51) rfl) (sub_c (nq_m (n := 52) rfl) (sub_c (nq_m (n := 53) rfl) (sub_c (nq_m (n := 54) rfl) (sub_c (nq_m (n := 55) rfl) (sub_c (nq_m (n := 56) rfl) (sub_c (nq_m (n := 57) rfl) (sub_c (nq_m (n := 58) rfl) (sub_c (nq_m (n := 59) rfl) (sub_c (nq_m (n := 60) rfl) (sub_c (nq_m (n := 61) rfl) (sub_c (nq_m (n := 62) rfl) (sub_c (nq_m (n := 63) rfl) (sub_c (nq_m (n := 64) rfl) (sub_c (nq_m (n := 65) rfl) (sub_c (nq_m (n := 66) rfl) (sub_c (nq_m (n := 67) rfl) (sub_c (nq_m (n := 68) rfl) (sub_c (nq_m (n := 69) rfl) (sub_c (nq_m (n := 70) rfl) (sub_c (nq_m (n := 71) rfl) (sub_c (nq_m (n := 72) rfl) (sub_c (nq_m (n := 73) rfl) (sub_c (nq_m (n := 74) rfl) (sub_c (nq_m (n := 75) rfl) (sub_c (nq_m (n := 76) rfl) (sub_c (nq_m (n := 77) rfl) (sub_c (nq_m (n := 78) rfl) (sub_c (nq_m (n := 79) rfl) sub_n)))))))))))))))))))))))))))))))))))))))))))))))))))))))))))) (by decide +kernel)
set_option maxRecDepth 100000 in
theorem gX11_ring_X11_isAstray : GoodIn wsX11_ring (wsV RX11 301 RX11 yX11_isAstray wsX11_isAstray) := goodIn_app (goodIn_sub (sub_c (nq_m (n := 11) rfl) (sub_c (nq_m (n := 12) rfl) (sub_c (nq_m (n := 13) rfl) (sub_c (nq_m (n := 5) rfl) sub_n)))) (by decide +kernel)) ggX11_ring_X11_isAstray
set_option maxRecDepth 100000 in
theorem ggX11_ring_X11_findChain : GoodIn wsX11_ring wsX11_findChain := goodIn_sub (sub_c (nq_m (n := 19) rfl) (sub_c (nq_m (n := 20) rfl) (sub_c (nq_m (n := 21) rfl) (sub_c (nq_m (n := 15) rfl) (sub_c (nq_m (n := 1) rfl) (sub_c (nq_m (n := 22) rfl) (sub_c (nq_m (n := 23) rfl) (sub_c (nq_m (n := 24) rfl) (sub_c (nq_m (n := 25) rfl) (sub_c (nq_m (n := 26) rfl) (sub_c (nq_m (n := 27) rfl) (sub_c (nq_m (n := 28) rfl) (sub_c (nq_m (n := 29) rfl) (sub_c (nq_m (n := 30) rfl) (sub_c (nq_m (n := 31) rfl) (sub_c (nq_m (n := 32) rfl) (sub_c (nq_m (n := 33) rfl) (sub_c (nq_m (n := 34) rfl) (sub_c (nq_m (n := 35) rfl) (sub_c (nq_m (n := 36) rfl) (sub_c (nq_m (n := 37) rfl) (sub_c (nq_m (n := 38) rfl) (sub_c (nq_m (n := 39) rfl) (sub_c (nq_m (n := 40) rfl) (sub_c (nq_m (n := 41) rfl) (sub_c (nq_m (n := 42) rfl) (sub_c (nq_m (n := 43) rfl) (sub_c (nq_m (n := 44) rfl) (sub_c (nq_m (n := 45) rfl) (sub_c (nq_m (n := 46) rfl) (sub_c (nq_m (n := 47) rfl) (sub_c (nq_m (n := 48) rfl) (sub_c (nq_m (n := 49) rfl) (sub_c (nq_m (n := 50) rfl) (sub_c (nq_m (n := 51) rfl) (sub_c (nq_m (n := 52) rfl) (sub_c (nq_m (n := 53) rfl) (sub_c (nq_m (n := 54) rfl) (sub_c (nq_m (n := 55) rfl) (sub_c (nq_m (n := 56) rfl) (sub_c (nq_m (n := 57) rfl) (sub_c (nq_m (n := 58) rfl) (sub_c (nq_m (n := 59) rfl) (sub_c (nq_m (n := 60) rfl) (sub_c (nq_m (n := 61) rfl) (sub_c (nq_m (n := 62) rfl) (sub_c (nq_m (n := 63) rfl) (sub_c (nq_m (n := 64) rfl) (sub_c (nq_m (n := 65) rfl) (sub_c (nq_m (n := 66) rfl) (sub_c (nq_m (n := 67) rfl) (sub_c (nq_m (n := 68) rfl) (sub_c (nq_m (n := 69) rfl) (sub_c (nq_m (n := 70) rfl) (sub_c (nq_m (n := 71) rfl) (sub_c (nq_m (n := 72) rfl) (sub_c (nq_m (n := 73) rfl) (sub_c (nq_m (n := 74) rfl) (sub_c (nq_m (n := 75) rfl) (sub_c (nq_m (n := 76) rfl) (sub_c (nq_m (n := 77) rfl) (sub_c (nq_m (n := 78) rfl) (sub_c (nq_m (n := 79) rfl) sub_n))))))))))))))))))))))))))))))))))))))))))))))))))))))))))))))) (by decide +kernel)
set_option maxRecDepth 100000 in
theorem gX11_ring_X11_findChain : GoodIn wsX11_ring (wsV RX11 311 RX11 yX11_findChain wsX11_findChain) := goodIn_app (goodIn_sub (sub_c (nq_m (n := 16) rfl) (sub_c (nq_m (n := 17) rfl) (sub_c (nq_m (n := 18) rfl) (sub_c (nq_m (n := 5) rfl) sub_n)))) (by decide +kernel)) ggX11_ring_X11_findChain
noncomputable def dX11_ring_0_l : List (Nat × Instr × Nat) := [(0, .aload_n 0, 1), (1, .iload_n 1, 1), (2, .invokevirtual 255, 3), (5, .ifCond .ne 7, 3), (8, .sipush (-1001), 3), (11, .ireturn, 1), (12, .aload_n 0, 1), (13, .iload_n 1, 1), (14, .invokevirtual 301, 3), (17, .ifCond .ne 7, 3), (20, .sipush (-1003), 3), (23, .ireturn, 1), (24, .aload_n 0, 1), (25, .iload_n 1, 1), (26, .invokevirtual 311, 3), (29, .aload_n 0, 1), (30, .getfield 307, 3), (33, .ifCond .eq 7, 3), (36, .iconst 1, 1), (37, .goto 4, 3), (40, .iconst 0, 1), (41, .ireturn, 1)]
set_option maxRecDepth 100000 in
theorem dX11_ring_0_g : dX11_ring_0_l.all (fun x => decide (decode cX11_ring x.1 = .ok x.2)) = true := by decide +kernel
theorem dX11_ring_0 : decode cX11_ring 0 = .ok (.aload_n 0, 1) := nq_d dX11_ring_0_g (n := 0) rfl
theorem dX11_ring_1 : decode cX11_ring 1 = .ok (.iload_n 1, 1) := nq_d dX11_ring_0_g (n := 1) rfl
theorem dX11_ring_2 : decode cX11_ring 2 = .ok (.invokevirtual 255, 3) := nq_d dX11_ring_0_g (n := 2) rfl
theorem dX11_ring_5 : decode cX11_ring 5 = .ok (.ifCond .ne 7, 3) := nq_d dX11_ring_0_g (n := 3) rfl
theorem dX11_ring_8 : decode cX11_ring 8 = .ok (.sipush (-1001), 3) := nq_d dX11_ring_0_g (n := 4) rfl
theorem dX11_ring_11 : decode cX11_ring 11 = .ok (.ireturn, 1) := nq_d dX11_ring_0_g (n := 5) rfl
theorem dX11_ring_12 : decode cX11_ring 12 = .ok (.aload_n 0, 1) := nq_d dX11_ring_0_g (n := 6) rfl
theorem dX11_ring_13 : decode cX11_ring 13 = .ok (.iload_n 1, 1) := nq_d dX11_ring_0_g (n := 7) rfl
theorem dX11_ring_14 : decode cX11_ring 14 = .ok (.invokevirtual 301, 3) := nq_d dX11_ring_0_g (n := 8) rfl
theorem dX11_ring_17 : decode cX11_ring 17 = .ok (.ifCond .ne 7, 3) := nq_d dX11_ring_0_g (n := 9) rfl
theorem dX11_ring_20 : decode cX11_ring 20 = .ok (.sipush (-1003), 3) := nq_d dX11_ring_0_g (n := 10) rfl
theorem dX11_ring_23 : decode cX11_ring 23 = .ok (.ireturn, 1) := nq_d dX11_ring_0_g (n := 11) rfl
theorem dX11_ring_24 : decode cX11_ring 24 = .ok (.aload_n 0, 1) := nq_d dX11_ring_0_g (n := 12) rfl
theorem dX11_ring_25 : decode cX11_ring 25 = .ok (.iload_n 1, 1) := nq_d dX11_ring_0_g (n := 13) rfl
theorem dX11_ring_26 : decode cX11_ring 26 = .ok (.invokevirtual 311, 3) := nq_d dX11_ring_0_g (n := 14) rfl
theorem dX11_ring_29 : decode cX11_ring 29 = .ok (.aload_n 0, 1) := nq_d dX11_ring_0_g (n := 15) rfl
theorem dX11_ring_30 : decode cX11_ring 30 = .ok (.getfield 307, 3) := nq_d dX11_ring_0_g (n := 16) rfl
theorem dX11_ring_33 : decode cX11_ring 33 = .ok (.ifCond .eq 7, 3) := nq_d dX11_ring_0_g (n := 17) rfl
theorem dX11_ring_36 : decode cX11_ring 36 = .ok (.iconst 1, 1) := nq_d dX11_ring_0_g (n := 18) rfl
theorem dX11_ring_37 : decode cX11_ring 37 = .ok (.goto 4, 3) := nq_d dX11_ring_0_g (n := 19) rfl
theorem dX11_ring_40 : decode cX11_ring 40 = .ok (.iconst 0, 1) := nq_d dX11_ring_0_g (n := 20) rfl
theorem dX11_ring_41 : decode cX11_ring 41 = .ok (.ireturn, 1) := nq_d dX11_ring_0_g (n := 21) rfl
set_option maxRecDepth 100000 in
theorem ggX11_exchanges_X11_isAstray : GoodIn wsX11_exchanges wsX11_isAstray := goodIn_sub (sub_c (nq_m (n := 9) rfl) (sub_c (nq_m (n := 10) rfl) (sub_c (nq_m (n := 15) rfl) (sub_c (nq_m (n := 16) rfl) (sub_c (nq_m (n := 17) rfl) (sub_c (nq_m (n := 18) rfl) (sub_c (nq_m (n := 19) rfl) (sub_c (nq_m (n := 20) rfl) (sub_c (nq_m (n := 21) rfl) (sub_c (nq_m (n := 22) rfl) (sub_c (nq_m (n := 23) rfl) (sub_c (nq_m (n := 24) rfl) (sub_c (nq_m (n := 25) rfl) (sub_c (nq_m (n := 26) rfl) (sub_c (nq_m (n := 27) rfl) (sub_c (nq_m (n := 28) rfl) (sub_c (nq_m (n := 29) rfl) (sub_c (nq_m (n := 30) rfl) (sub_c (nq_m (n := 31) rfl) (sub_c (nq_m (n := 32) rfl) (sub_c (nq_m (n := 33) rfl) (sub_c (nq_m (n := 34) rfl) (sub_c (nq_m (n := 35) rfl) (sub_c (nq_m (n := 36) rfl) (sub_c (nq_m (n := 37) rfl) (sub_c (nq_m (n := 38) rfl) (sub_c (nq_m (n := 39) rfl) (sub_c (nq_m (n := 40) rfl) (sub_c (nq_m (n := 41) rfl) (sub_c (nq_m (n := 42) rfl) (sub_c (nq_m (n := 43) rfl) (sub_c (nq_m (n := 44) rfl) (sub_c (nq_m (n := 45) rfl) (sub_c (nq_m (n := 46) rfl) (sub_c (nq_m (n := 47) rfl) (sub_c (nq_m (n := 48) rfl) (sub_c (nq_m (n := 49) rfl) (sub_c (nq_m (n := 50) rfl) (sub_c (nq_m (n := 51) rfl) (sub_c (nq_m (n := 52) rfl) (sub_c (nq_m (n := 53) rfl) (sub_c (nq_m (n := 54) rfl) (sub_c (nq_m (n := 55) rfl) (sub_c (nq_m (n := 56) rfl) (sub_c (nq_m (n := 57) rfl) (sub_c (nq_m (n := 58) rfl) (sub_c (nq_m (n := 59) rfl) (sub_c (nq_m (n := 60) rfl) (sub_c (nq_m (n := 61) rfl) (sub_c (nq_m (n := 62) rfl) (sub_c (nq_m (n := 63) rfl) (sub_c (nq_m (n := 64) rfl) (sub_c (nq_m (n := 65) rfl) (sub_c (nq_m (n := 66) rfl) (sub_c (nq_m (n := 67) rfl) (sub_c (nq_m (n := 68) rfl) (sub_c (nq_m (n := 69) rfl) (sub_c (nq_m (n := 70) rfl) (sub_c (nq_m (n := 71) rfl) (sub_c (nq_m (n := 72) rfl) sub_n)))))))))))))))))))))))))))))))))))))))))))))))))))))))))))) (by decide +kernel)
set_option maxRecDepth 100000 in
theorem gX11_exchanges_X11_isAstray : GoodIn wsX11_exchanges (wsV RX11 301 RX11 yX11_isAstray wsX11_isAstray) := goodIn_app (goodIn_sub (sub_c (nq_m (n := 5) rfl) (sub_c (nq_m (n := 6) rfl) (sub_c (nq_m (n := 7) rfl) (sub_c (nq_m (n := 8) rfl) sub_n)))) (by decide +kernel)) ggX11_exchanges_X11_isAstray
set_option maxRecDepth 100000 in
theorem ggX11_exchanges_X11_findChain : GoodIn wsX11_exchanges wsX11_findChain := goodIn_sub (sub_c (nq_m (n := 14) rfl) (sub_c (nq_m (n := 4) rfl) (sub_c (nq_m (n := 3) rfl) (sub_c (nq_m (n := 10) rfl) (sub_c (nq_m (n := 2) rfl) (sub_c (nq_m (n := 15) rfl) (sub_c (nq_m (n := 16) rfl) (sub_c (nq_m (n := 17) rfl) (sub_c (nq_m (n := 18) rfl) (sub_c (nq_m (n := 19) rfl) (sub_c (nq_m (n := 20) rfl) (sub_c (nq_m (n := 21) rfl) (sub_c (nq_m (n := 22) rfl) (sub_c (nq_m (n := 23) rfl) (sub_c (nq_m (n := 24) rfl) (sub_c (nq_m (n := 25) rfl) (sub_c (nq_m (n := 26) rfl) (sub_c (nq_m (n := 27) rfl) (sub_c (nq_m (n := 28) rfl) (sub_c (nq_m (n := 29) rfl) (sub_c (nq_m (n := 30) rfl) (sub_c (nq_m (n := 31) rfl) (sub_c (nq_m (n := 32) rfl) (sub_c (nq_m (n := 33) rfl) (sub_c (nq_m (n := 34) rfl) (sub_c (nq_m (n := 35) rfl) (sub_c (nq_m (n := 36) rfl) (sub_c (nq_m (n := 37) rfl) (sub_c (nq_m (n := 38) rfl) (sub_c (nq_m (n := 39) rfl) (sub_c (nq_m (n := 40) rfl) (sub_c (nq_m (n := 41) rfl) (sub_c (nq_m (n := 42) rfl) (sub_c (nq_m (n := 43) rfl) (sub_c (nq_m (n := 44) rfl) (sub_c (nq_m (n := 45) rfl) (sub_c (nq_m (n := 46) rfl) (sub_c (nq_m (n := 47) rfl) (sub_c (nq_m (n := 48) rfl) (sub_c (nq_m (n := 49) rfl) (sub_c (nq_m (n := 50) rfl) (sub_c (nq_m (n := 51) rfl) (sub_c (nq_m (n := 52) rfl) (sub_c (nq_m (n := 53) rfl) (sub_c (nq_m (n := 54) rfl) (sub_c (nq_m (n := 55) rfl) (sub_c (nq_m (n := 56) rfl) (sub_c (nq_m (n := 57) rfl) (sub_c (nq_m (n := 58) rfl) (sub_c (nq_m (n := 59) rfl) (sub_c (nq_m (n := 60) rfl) (sub_c (nq_m (n := 61) rfl) (sub_c (nq_m (n := 62) rfl) (sub_c (nq_m (n := 63) rfl) (sub_c (nq_m (n := 64) rfl) (sub_c (nq_m (n := 65) rfl) (sub_c (nq_m (n := 66) rfl) (sub_c (nq_m (n := 67) rfl) (sub_c (nq_m (n := 68) rfl) (sub_c (nq_m (n := 69) rfl) (sub_c (nq_m (n := 70) rfl) (sub_c (nq_m (n := 71) rfl) (sub_c (nq_m (n := 72) rfl) sub_n))))))))))))))))))))))))))))))))))))))))))))))))))))))))))))))) (by decide +kernel)
set_option maxRecDepth 100000 in
theorem gX11_exchanges_X11_findChain : GoodIn wsX11_exchanges (wsV RX11 311 RX11 yX11_findChain wsX11_findChain) := goodIn_app (goodIn_sub (sub_c (nq_m (n := 11) rfl) (sub_c (nq_m (n := 12) rfl) (sub_c (nq_m (n := 13) rfl) (sub_c (nq_m (n := 8) rfl) sub_n)))) (by decide +kernel)) ggX11_exchanges_X11_findChain
noncomputable def dX11_exchanges_0_l : List (Nat × Instr × Nat) := [(0, .iconst 0, 1), (1, .istore_n 1, 1), (2, .iconst 0, 1), (3, .istore_n 2, 1), (4, .iload_n 2, 1), (5, .aload_n 0, 1), (6, .getfield 227, 3), (9, .if_icmp .ge 78, 3), (12, .aload_n 0, 1), (13, .iload_n 2, 1), (14, .invokevirtual 301, 3), (17, .ifCond .eq 64, 3), (20, .aload_n 0, 1), (21, .iload_n 2, 1), (22, .invokevirtual 311, 3), (25, .aload_n 0, 1), (26, .getfield 307, 3), (29, .istore_n 3, 1), (30, .iconst 1, 1), (31, .istore 4, 2), (33, .iload 4, 2), (35, .aload_n 0, 1), (36, .getfield 304, 3), (39, .if_icmp .ge 30, 3), (42, .iload_n 3, 1), (43, .ifCond .eq 18, 3), (46, .aload_n 0, 1), (47, .getfield 87, 3), (50, .iload 4, 2), (52, .iaload, 1), (53, .iload_n 2, 1), (54, .if_icmp .le 7, 3), (57, .iconst 1, 1), (58, .goto 4, 3), (61, .iconst 0, 1), (62, .istore_n 3, 1), (63, .iinc 4 1, 3), (66, .goto (-33), 3), (69, .iload_n 1, 1), (70, .iload_n 3, 1)]
set_option maxRecDepth 100000 in
theorem dX11_exchanges_0_g : dX11_exchanges_0_l.all (fun x => decide (decode cX11_exchanges x.1 = .ok x.2)) = true := by decide +kernel
theorem dX11_exchanges_0 : decode cX11_exchanges 0 = .ok (.iconst 0, 1) := nq_d dX11_exchanges_0_g (n := 0) rfl
theorem dX11_exchanges_1 : decode cX11_exchanges 1 = .ok (.istore_n 1, 1) := nq_d dX11_exchanges_0_g (n := 1) rfl
theorem dX11_exchanges_2 : decode cX11_exchanges 2 = .ok (.iconst 0, 1) := nq_d dX11_exchanges_0_g (n := 2) rfl
theorem dX11_exchanges_3 : decode cX11_exchanges 3 = .ok (.istore_n 2, 1) := nq_d dX11_exchanges_0_g (n := 3) rfl
theorem dX11_exchanges_4 : decode cX11_exchanges 4 = .ok (.iload_n 2, 1) := nq_d dX11_exchanges_0_g (n := 4) rfl
theorem dX11_exchanges_5 : decode cX11_exchanges 5 = .ok (.aload_n 0, 1) := nq_d dX11_exchanges_0_g (n := 5) rfl
theorem dX11_exchanges_6 : decode cX11_exchanges 6 = .ok (.getfield 227, 3) := nq_d dX11_exchanges_0_g (n := 6) rfl
theorem dX11_exchanges_9 : decode cX11_exchanges 9 = .ok (.if_icmp .ge 78, 3) := nq_d dX11_exchanges_0_g (n := 7) rfl
theorem dX11_exchanges_12 : decode cX11_exchanges 12 = .ok (.aload_n 0, 1) := nq_d dX11_exchanges_0_g (n := 8) rfl
theorem dX11_exchanges_13 : decode cX11_exchanges 13 = .ok (.iload_n 2, 1) := nq_d dX11_exchanges_0_g (n := 9) rfl
theorem dX11_exchanges_14 : decode cX11_exchanges 14 = .ok (.invokevirtual 301, 3) := nq_d dX11_exchanges_0_g (n := 10) rfl
theorem dX11_exchanges_17 : decode cX11_exchanges 17 = .ok (.ifCond .eq 64, 3) := nq_d dX11_exchanges_0_g (n := 11) rfl
theorem dX11_exchanges_20 : decode cX11_exchanges 20 = .ok (.aload_n 0, 1) := nq_d dX11_exchanges_0_g (n := 12) rfl
theorem dX11_exchanges_21 : decode cX11_exchanges 21 = .ok (.iload_n 2, 1) := nq_d dX11_exchanges_0_g (n := 13) rfl
theorem dX11_exchanges_22 : decode cX11_exchanges 22 = .ok (.invokevirtual 311, 3) := nq_d dX11_exchanges_0_g (n := 14) rfl
theorem dX11_exchanges_25 : decode cX11_exchanges 25 = .ok (.aload_n 0, 1) := nq_d dX11_exchanges_0_g (n := 15) rfl
theorem dX11_exchanges_26 : decode cX11_exchanges 26 = .ok (.getfield 307, 3) := nq_d dX11_exchanges_0_g (n := 16) rfl
theorem dX11_exchanges_29 : decode cX11_exchanges 29 = .ok (.istore_n 3, 1) := nq_d dX11_exchanges_0_g (n := 17) rfl
theorem dX11_exchanges_30 : decode cX11_exchanges 30 = .ok (.iconst 1, 1) := nq_d dX11_exchanges_0_g (n := 18) rfl
theorem dX11_exchanges_31 : decode cX11_exchanges 31 = .ok (.istore 4, 2) := nq_d dX11_exchanges_0_g (n := 19) rfl
theorem dX11_exchanges_33 : decode cX11_exchanges 33 = .ok (.iload 4, 2) := nq_d dX11_exchanges_0_g (n := 20) rfl
theorem dX11_exchanges_35 : decode cX11_exchanges 35 = .ok (.aload_n 0, 1) := nq_d dX11_exchanges_0_g (n := 21) rfl
theorem dX11_exchanges_36 : decode cX11_exchanges 36 = .ok (.getfield 304, 3) := nq_d dX11_exchanges_0_g (n := 22) rfl
theorem dX11_exchanges_39 : decode cX11_exchanges 39 = .ok (.if_icmp .ge 30, 3) := nq_d dX11_exchanges_0_g (n := 23) rfl
theorem dX11_exchanges_42 : decode cX11_exchanges 42 = .ok (.iload_n 3, 1) := nq_d dX11_exchanges_0_g (n := 24) rfl
theorem dX11_exchanges_43 : decode cX11_exchanges 43 = .ok (.ifCond .eq 18, 3) := nq_d dX11_exchanges_0_g (n := 25) rfl
theorem dX11_exchanges_46 : decode cX11_exchanges 46 = .ok (.aload_n 0, 1) := nq_d dX11_exchanges_0_g (n := 26) rfl
theorem dX11_exchanges_47 : decode cX11_exchanges 47 = .ok (.getfield 87, 3) := nq_d dX11_exchanges_0_g (n := 27) rfl
theorem dX11_exchanges_50 : decode cX11_exchanges 50 = .ok (.iload 4, 2) := nq_d dX11_exchanges_0_g (n := 28) rfl
theorem dX11_exchanges_52 : decode cX11_exchanges 52 = .ok (.iaload, 1) := nq_d dX11_exchanges_0_g (n := 29) rfl
theorem dX11_exchanges_53 : decode cX11_exchanges 53 = .ok (.iload_n 2, 1) := nq_d dX11_exchanges_0_g (n := 30) rfl
theorem dX11_exchanges_54 : decode cX11_exchanges 54 = .ok (.if_icmp .le 7, 3) := nq_d dX11_exchanges_0_g (n := 31) rfl
theorem dX11_exchanges_57 : decode cX11_exchanges 57 = .ok (.iconst 1, 1) := nq_d dX11_exchanges_0_g (n := 32) rfl
theorem dX11_exchanges_58 : decode cX11_exchanges 58 = .ok (.goto 4, 3) := nq_d dX11_exchanges_0_g (n := 33) rfl
theorem dX11_exchanges_61 : decode cX11_exchanges 61 = .ok (.iconst 0, 1) := nq_d dX11_exchanges_0_g (n := 34) rfl
theorem dX11_exchanges_62 : decode cX11_exchanges 62 = .ok (.istore_n 3, 1) := nq_d dX11_exchanges_0_g (n := 35) rfl
theorem dX11_exchanges_63 : decode cX11_exchanges 63 = .ok (.iinc 4 1, 3) := nq_d dX11_exchanges_0_g (n := 36) rfl
theorem dX11_exchanges_66 : decode cX11_exchanges 66 = .ok (.goto (-33), 3) := nq_d dX11_exchanges_0_g (n := 37) rfl
theorem dX11_exchanges_69 : decode cX11_exchanges 69 = .ok (.iload_n 1, 1) := nq_d dX11_exchanges_0_g (n := 38) rfl
theorem dX11_exchanges_70 : decode cX11_exchanges 70 = .ok (.iload_n 3, 1) := nq_d dX11_exchanges_0_g (n := 39) rfl
noncomputable def dX11_exchanges_71_l : List (Nat × Instr × Nat) := [(71, .ifCond .eq 7, 3), (74, .iconst 0, 1), (75, .goto 4, 3), (78, .iconst 1, 1), (79, .iadd, 1), (80, .istore_n 1, 1), (81, .iinc 2 1, 3), (84, .goto (-80), 3), (87, .iload_n 1, 1), (88, .ireturn, 1)]
set_option maxRecDepth 100000 in
theorem dX11_exchanges_71_g : dX11_exchanges_71_l.all (fun x => decide (decode cX11_exchanges x.1 = .ok x.2)) = true := by decide +kernel
theorem dX11_exchanges_71 : decode cX11_exchanges 71 = .ok (.ifCond .eq 7, 3) := nq_d dX11_exchanges_71_g (n := 0) rfl
theorem dX11_exchanges_74 : decode cX11_exchanges 74 = .ok (.iconst 0, 1) := nq_d dX11_exchanges_71_g (n := 1) rfl
theorem dX11_exchanges_75 : decode cX11_exchanges 75 = .ok (.goto 4, 3) := nq_d dX11_exchanges_71_g (n := 2) rfl
theorem dX11_exchanges_78 : decode cX11_exchanges 78 = .ok (.iconst 1, 1) := nq_d dX11_exchanges_71_g (n := 3) rfl
theorem dX11_exchanges_79 : decode cX11_exchanges 79 = .ok (.iadd, 1) := nq_d dX11_exchanges_71_g (n := 4) rfl
theorem dX11_exchanges_80 : decode cX11_exchanges 80 = .ok (.istore_n 1, 1) := nq_d dX11_exchanges_71_g (n := 5) rfl
theorem dX11_exchanges_81 : decode cX11_exchanges 81 = .ok (.iinc 2 1, 3) := nq_d dX11_exchanges_71_g (n := 6) rfl
theorem dX11_exchanges_84 : decode cX11_exchanges 84 = .ok (.goto (-80), 3) := nq_d dX11_exchanges_71_g (n := 7) rfl
theorem dX11_exchanges_87 : decode cX11_exchanges 87 = .ok (.iload_n 1, 1) := nq_d dX11_exchanges_71_g (n := 8) rfl
theorem dX11_exchanges_88 : decode cX11_exchanges 88 = .ok (.ireturn, 1) := nq_d dX11_exchanges_71_g (n := 9) rfl
set_option maxRecDepth 100000 in
theorem ggX11_wrong_X11_isGuest : GoodIn wsX11_wrong wsX11_isGuest := goodIn_sub (sub_c (nq_m (n := 8) rfl) (sub_c (nq_m (n := 9) rfl) (sub_c (nq_m (n := 10) rfl) (sub_c (nq_m (n := 11) rfl) (sub_c (nq_m (n := 7) rfl) (sub_c (nq_m (n := 12) rfl) (sub_c (nq_m (n := 13) rfl) (sub_c (nq_m (n := 14) rfl) (sub_c (nq_m (n := 15) rfl) (sub_c (nq_m (n := 16) rfl) (sub_c (nq_m (n := 17) rfl) (sub_c (nq_m (n := 18) rfl) (sub_c (nq_m (n := 19) rfl) (sub_c (nq_m (n := 20) rfl) (sub_c (nq_m (n := 21) rfl) (sub_c (nq_m (n := 22) rfl) (sub_c (nq_m (n := 23) rfl) (sub_c (nq_m (n := 24) rfl) (sub_c (nq_m (n := 25) rfl) (sub_c (nq_m (n := 26) rfl) (sub_c (nq_m (n := 27) rfl) (sub_c (nq_m (n := 28) rfl) (sub_c (nq_m (n := 29) rfl) (sub_c (nq_m (n := 30) rfl) (sub_c (nq_m (n := 31) rfl) (sub_c (nq_m (n := 32) rfl) (sub_c (nq_m (n := 33) rfl) (sub_c (nq_m (n := 34) rfl) (sub_c (nq_m (n := 35) rfl) (sub_c (nq_m (n := 36) rfl) (sub_c (nq_m (n := 37) rfl) (sub_c (nq_m (n := 38) rfl) (sub_c (nq_m (n := 39) rfl) (sub_c (nq_m (n := 40) rfl) (sub_c (nq_m (n := 41) rfl) (sub_c (nq_m (n := 42) rfl) (sub_c (nq_m (n := 43) rfl) (sub_c (nq_m (n := 44) rfl) (sub_c (nq_m (n := 45) rfl) (sub_c (nq_m (n := 46) rfl) (sub_c (nq_m (n := 47) rfl) (sub_c (nq_m (n := 48) rfl) (sub_c (nq_m (n := 49) rfl) (sub_c (nq_m (n := 50) rfl) (sub_c (nq_m (n := 51) rfl) (sub_c (nq_m (n := 52) rfl) (sub_c (nq_m (n := 53) rfl) (sub_c (nq_m (n := 54) rfl) (sub_c (nq_m (n := 55) rfl) (sub_c (nq_m (n := 56) rfl) (sub_c (nq_m (n := 57) rfl) (sub_c (nq_m (n := 58) rfl) (sub_c (nq_m (n := 59) rfl) (sub_c (nq_m (n := 60) rfl) (sub_c (nq_m (n := 61) rfl) (sub_c (nq_m (n := 62) rfl) (sub_c (nq_m (n := 63) rfl) (sub_c (nq_m (n := 64) rfl) (sub_c (nq_m (n := 65) rfl) (sub_c (nq_m (n := 66) rfl) (sub_c (nq_m (n := 67) rfl) (sub_c (nq_m (n := 68) rfl) (sub_c (nq_m (n := 69) rfl) (sub_c (nq_m (n := 70) rfl) sub_n)))))))))))))))))))))))))))))))))))))))))))))))))))))))))))))))) (by decide +kernel)
set_option maxRecDepth 100000 in
theorem gX11_wrong_X11_isGuest : GoodIn wsX11_wrong (wsV RX11 255 RX11 yX11_isGuest wsX11_isGuest) := goodIn_app (goodIn_sub (sub_c (nq_m (n := 4) rfl) (sub_c (nq_m (n := 5) rfl) (sub_c (nq_m (n := 6) rfl) (sub_c (nq_m (n := 7) rfl) sub_n)))) (by decide +kernel)) ggX11_wrong_X11_isGuest
set_option maxRecDepth 100000 in
theorem ggX11_wrong_X11_in : GoodIn wsX11_wrong wsX11_in := goodIn_sub (sub_c (nq_m (n := 12) rfl) sub_n) (by decide +kernel)
set_option maxRecDepth 100000 in
theorem gX11_wrong_X11_in : GoodIn wsX11_wrong (va_wsS RX11 126 yX11_in wsX11_in) := goodIn_app (goodIn_sub (sub_c (nq_m (n := 10) rfl) (sub_c (nq_m (n := 11) rfl) (sub_c (nq_m (n := 7) rfl) sub_n))) (by decide +kernel)) ggX11_wrong_X11_in
noncomputable def dX11_wrong_0_l : List (Nat × Instr × Nat) := [(0, .aload_n 0, 1), (1, .iload_n 1, 1), (2, .invokevirtual 255, 3), (5, .ifCond .ne 7, 3), (8, .sipush (-1001), 3), (11, .ireturn, 1), (12, .iload_n 2, 1), (13, .i2l, 1), (14, .lconst 0, 1), (15, .lconst 1, 1), (16, .invokestatic 126, 3), (19, .ifCond .ne 7, 3), (22, .sipush (-1002), 3), (25, .ireturn, 1), (26, .iconst (-1), 1), (27, .istore_n 3, 1), (28, .iconst 0, 1), (29, .istore 4, 2), (31, .iload 4, 2), (33, .aload_n 0, 1), (34, .getfield 215, 3), (37, .if_icmp .ge 46, 3), (40, .aload_n 0, 1), (41, .getfield 84, 3), (44, .bipush 7, 2), (46, .iload 4, 2), (48, .imul, 1), (49, .iaload, 1), (50, .iconst 1, 1), (51, .if_icmp .ne 24, 3), (54, .aload_n 0, 1), (55, .getfield 84, 3), (58, .bipush 7, 2), (60, .iload 4, 2), (62, .imul, 1), (63, .iconst 5, 1), (64, .iadd, 1), (65, .iaload, 1), (66, .iload_n 1, 1), (67, .if_icmp .ne 8, 3)]
set_option maxRecDepth 100000 in
theorem dX11_wrong_0_g : dX11_wrong_0_l.all (fun x => decide (decode cX11_wrong x.1 = .ok x.2)) = true := by decide +kernel
theorem dX11_wrong_0 : decode cX11_wrong 0 = .ok (.aload_n 0, 1) := nq_d dX11_wrong_0_g (n := 0) rfl
theorem dX11_wrong_1 : decode cX11_wrong 1 = .ok (.iload_n 1, 1) := nq_d dX11_wrong_0_g (n := 1) rfl
theorem dX11_wrong_2 : decode cX11_wrong 2 = .ok (.invokevirtual 255, 3) := nq_d dX11_wrong_0_g (n := 2) rfl
theorem dX11_wrong_5 : decode cX11_wrong 5 = .ok (.ifCond .ne 7, 3) := nq_d dX11_wrong_0_g (n := 3) rfl
theorem dX11_wrong_8 : decode cX11_wrong 8 = .ok (.sipush (-1001), 3) := nq_d dX11_wrong_0_g (n := 4) rfl
theorem dX11_wrong_11 : decode cX11_wrong 11 = .ok (.ireturn, 1) := nq_d dX11_wrong_0_g (n := 5) rfl
theorem dX11_wrong_12 : decode cX11_wrong 12 = .ok (.iload_n 2, 1) := nq_d dX11_wrong_0_g (n := 6) rfl
theorem dX11_wrong_13 : decode cX11_wrong 13 = .ok (.i2l, 1) := nq_d dX11_wrong_0_g (n := 7) rfl
theorem dX11_wrong_14 : decode cX11_wrong 14 = .ok (.lconst 0, 1) := nq_d dX11_wrong_0_g (n := 8) rfl
theorem dX11_wrong_15 : decode cX11_wrong 15 = .ok (.lconst 1, 1) := nq_d dX11_wrong_0_g (n := 9) rfl
theorem dX11_wrong_16 : decode cX11_wrong 16 = .ok (.invokestatic 126, 3) := nq_d dX11_wrong_0_g (n := 10) rfl
theorem dX11_wrong_19 : decode cX11_wrong 19 = .ok (.ifCond .ne 7, 3) := nq_d dX11_wrong_0_g (n := 11) rfl
theorem dX11_wrong_22 : decode cX11_wrong 22 = .ok (.sipush (-1002), 3) := nq_d dX11_wrong_0_g (n := 12) rfl
theorem dX11_wrong_25 : decode cX11_wrong 25 = .ok (.ireturn, 1) := nq_d dX11_wrong_0_g (n := 13) rfl
theorem dX11_wrong_26 : decode cX11_wrong 26 = .ok (.iconst (-1), 1) := nq_d dX11_wrong_0_g (n := 14) rfl
theorem dX11_wrong_27 : decode cX11_wrong 27 = .ok (.istore_n 3, 1) := nq_d dX11_wrong_0_g (n := 15) rfl
theorem dX11_wrong_28 : decode cX11_wrong 28 = .ok (.iconst 0, 1) := nq_d dX11_wrong_0_g (n := 16) rfl
theorem dX11_wrong_29 : decode cX11_wrong 29 = .ok (.istore 4, 2) := nq_d dX11_wrong_0_g (n := 17) rfl
theorem dX11_wrong_31 : decode cX11_wrong 31 = .ok (.iload 4, 2) := nq_d dX11_wrong_0_g (n := 18) rfl
theorem dX11_wrong_33 : decode cX11_wrong 33 = .ok (.aload_n 0, 1) := nq_d dX11_wrong_0_g (n := 19) rfl
theorem dX11_wrong_34 : decode cX11_wrong 34 = .ok (.getfield 215, 3) := nq_d dX11_wrong_0_g (n := 20) rfl
theorem dX11_wrong_37 : decode cX11_wrong 37 = .ok (.if_icmp .ge 46, 3) := nq_d dX11_wrong_0_g (n := 21) rfl
theorem dX11_wrong_40 : decode cX11_wrong 40 = .ok (.aload_n 0, 1) := nq_d dX11_wrong_0_g (n := 22) rfl
theorem dX11_wrong_41 : decode cX11_wrong 41 = .ok (.getfield 84, 3) := nq_d dX11_wrong_0_g (n := 23) rfl
theorem dX11_wrong_44 : decode cX11_wrong 44 = .ok (.bipush 7, 2) := nq_d dX11_wrong_0_g (n := 24) rfl
theorem dX11_wrong_46 : decode cX11_wrong 46 = .ok (.iload 4, 2) := nq_d dX11_wrong_0_g (n := 25) rfl
theorem dX11_wrong_48 : decode cX11_wrong 48 = .ok (.imul, 1) := nq_d dX11_wrong_0_g (n := 26) rfl
theorem dX11_wrong_49 : decode cX11_wrong 49 = .ok (.iaload, 1) := nq_d dX11_wrong_0_g (n := 27) rfl
theorem dX11_wrong_50 : decode cX11_wrong 50 = .ok (.iconst 1, 1) := nq_d dX11_wrong_0_g (n := 28) rfl
theorem dX11_wrong_51 : decode cX11_wrong 51 = .ok (.if_icmp .ne 24, 3) := nq_d dX11_wrong_0_g (n := 29) rfl
theorem dX11_wrong_54 : decode cX11_wrong 54 = .ok (.aload_n 0, 1) := nq_d dX11_wrong_0_g (n := 30) rfl
theorem dX11_wrong_55 : decode cX11_wrong 55 = .ok (.getfield 84, 3) := nq_d dX11_wrong_0_g (n := 31) rfl
theorem dX11_wrong_58 : decode cX11_wrong 58 = .ok (.bipush 7, 2) := nq_d dX11_wrong_0_g (n := 32) rfl
theorem dX11_wrong_60 : decode cX11_wrong 60 = .ok (.iload 4, 2) := nq_d dX11_wrong_0_g (n := 33) rfl
theorem dX11_wrong_62 : decode cX11_wrong 62 = .ok (.imul, 1) := nq_d dX11_wrong_0_g (n := 34) rfl
theorem dX11_wrong_63 : decode cX11_wrong 63 = .ok (.iconst 5, 1) := nq_d dX11_wrong_0_g (n := 35) rfl
theorem dX11_wrong_64 : decode cX11_wrong 64 = .ok (.iadd, 1) := nq_d dX11_wrong_0_g (n := 36) rfl
theorem dX11_wrong_65 : decode cX11_wrong 65 = .ok (.iaload, 1) := nq_d dX11_wrong_0_g (n := 37) rfl
theorem dX11_wrong_66 : decode cX11_wrong 66 = .ok (.iload_n 1, 1) := nq_d dX11_wrong_0_g (n := 38) rfl
theorem dX11_wrong_67 : decode cX11_wrong 67 = .ok (.if_icmp .ne 8, 3) := nq_d dX11_wrong_0_g (n := 39) rfl
noncomputable def dX11_wrong_70_l : List (Nat × Instr × Nat) := [(70, .iload 4, 2), (72, .goto 4, 3), (75, .iload_n 3, 1), (76, .istore_n 3, 1), (77, .iinc 4 1, 3), (80, .goto (-49), 3), (83, .iconst (-1), 1), (84, .istore 4, 2), (86, .aload_n 0, 1), (87, .getfield 62, 3), (90, .iload_n 1, 1), (91, .iaload, 1), (92, .ifCond .lt 35, 3), (95, .aload_n 0, 1), (96, .getfield 84, 3), (99, .bipush 7, 2), (101, .aload_n 0, 1), (102, .getfield 62, 3), (105, .iload_n 1, 1), (106, .iaload, 1), (107, .imul, 1), (108, .bipush 6, 2), (110, .iadd, 1), (111, .iaload, 1), (112, .iconst 1, 1), (113, .if_icmp .ne 14, 3), (116, .aload_n 0, 1), (117, .getfield 62, 3), (120, .iload_n 1, 1), (121, .iaload, 1), (122, .istore 4, 2), (124, .goto 75, 3), (127, .iload_n 3, 1), (128, .ifCond .lt 71, 3), (131, .aload_n 0, 1), (132, .getfield 62, 3), (135, .aload_n 0, 1), (136, .getfield 84, 3), (139, .bipush 7, 2), (141, .iload_n 3, 1)]
set_option maxRecDepth 100000 in
theorem dX11_wrong_70_g : dX11_wrong_70_l.all (fun x => decide (decode cX11_wrong x.1 = .ok x.2)) = true := by decide +kernel
theorem dX11_wrong_70 : decode cX11_wrong 70 = .ok (.iload 4, 2) := nq_d dX11_wrong_70_g (n := 0) rfl
theorem dX11_wrong_72 : decode cX11_wrong 72 = .ok (.goto 4, 3) := nq_d dX11_wrong_70_g (n := 1) rfl
theorem dX11_wrong_75 : decode cX11_wrong 75 = .ok (.iload_n 3, 1) := nq_d dX11_wrong_70_g (n := 2) rfl
theorem dX11_wrong_76 : decode cX11_wrong 76 = .ok (.istore_n 3, 1) := nq_d dX11_wrong_70_g (n := 3) rfl
theorem dX11_wrong_77 : decode cX11_wrong 77 = .ok (.iinc 4 1, 3) := nq_d dX11_wrong_70_g (n := 4) rfl
theorem dX11_wrong_80 : decode cX11_wrong 80 = .ok (.goto (-49), 3) := nq_d dX11_wrong_70_g (n := 5) rfl
theorem dX11_wrong_83 : decode cX11_wrong 83 = .ok (.iconst (-1), 1) := nq_d dX11_wrong_70_g (n := 6) rfl
theorem dX11_wrong_84 : decode cX11_wrong 84 = .ok (.istore 4, 2) := nq_d dX11_wrong_70_g (n := 7) rfl
theorem dX11_wrong_86 : decode cX11_wrong 86 = .ok (.aload_n 0, 1) := nq_d dX11_wrong_70_g (n := 8) rfl
theorem dX11_wrong_87 : decode cX11_wrong 87 = .ok (.getfield 62, 3) := nq_d dX11_wrong_70_g (n := 9) rfl
theorem dX11_wrong_90 : decode cX11_wrong 90 = .ok (.iload_n 1, 1) := nq_d dX11_wrong_70_g (n := 10) rfl
theorem dX11_wrong_91 : decode cX11_wrong 91 = .ok (.iaload, 1) := nq_d dX11_wrong_70_g (n := 11) rfl
theorem dX11_wrong_92 : decode cX11_wrong 92 = .ok (.ifCond .lt 35, 3) := nq_d dX11_wrong_70_g (n := 12) rfl
theorem dX11_wrong_95 : decode cX11_wrong 95 = .ok (.aload_n 0, 1) := nq_d dX11_wrong_70_g (n := 13) rfl
theorem dX11_wrong_96 : decode cX11_wrong 96 = .ok (.getfield 84, 3) := nq_d dX11_wrong_70_g (n := 14) rfl
theorem dX11_wrong_99 : decode cX11_wrong 99 = .ok (.bipush 7, 2) := nq_d dX11_wrong_70_g (n := 15) rfl
theorem dX11_wrong_101 : decode cX11_wrong 101 = .ok (.aload_n 0, 1) := nq_d dX11_wrong_70_g (n := 16) rfl
theorem dX11_wrong_102 : decode cX11_wrong 102 = .ok (.getfield 62, 3) := nq_d dX11_wrong_70_g (n := 17) rfl
theorem dX11_wrong_105 : decode cX11_wrong 105 = .ok (.iload_n 1, 1) := nq_d dX11_wrong_70_g (n := 18) rfl
theorem dX11_wrong_106 : decode cX11_wrong 106 = .ok (.iaload, 1) := nq_d dX11_wrong_70_g (n := 19) rfl
theorem dX11_wrong_107 : decode cX11_wrong 107 = .ok (.imul, 1) := nq_d dX11_wrong_70_g (n := 20) rfl
theorem dX11_wrong_108 : decode cX11_wrong 108 = .ok (.bipush 6, 2) := nq_d dX11_wrong_70_g (n := 21) rfl
theorem dX11_wrong_110 : decode cX11_wrong 110 = .ok (.iadd, 1) := nq_d dX11_wrong_70_g (n := 22) rfl
theorem dX11_wrong_111 : decode cX11_wrong 111 = .ok (.iaload, 1) := nq_d dX11_wrong_70_g (n := 23) rfl
theorem dX11_wrong_112 : decode cX11_wrong 112 = .ok (.iconst 1, 1) := nq_d dX11_wrong_70_g (n := 24) rfl
theorem dX11_wrong_113 : decode cX11_wrong 113 = .ok (.if_icmp .ne 14, 3) := nq_d dX11_wrong_70_g (n := 25) rfl
theorem dX11_wrong_116 : decode cX11_wrong 116 = .ok (.aload_n 0, 1) := nq_d dX11_wrong_70_g (n := 26) rfl
theorem dX11_wrong_117 : decode cX11_wrong 117 = .ok (.getfield 62, 3) := nq_d dX11_wrong_70_g (n := 27) rfl
theorem dX11_wrong_120 : decode cX11_wrong 120 = .ok (.iload_n 1, 1) := nq_d dX11_wrong_70_g (n := 28) rfl
theorem dX11_wrong_121 : decode cX11_wrong 121 = .ok (.iaload, 1) := nq_d dX11_wrong_70_g (n := 29) rfl
theorem dX11_wrong_122 : decode cX11_wrong 122 = .ok (.istore 4, 2) := nq_d dX11_wrong_70_g (n := 30) rfl
theorem dX11_wrong_124 : decode cX11_wrong 124 = .ok (.goto 75, 3) := nq_d dX11_wrong_70_g (n := 31) rfl
theorem dX11_wrong_127 : decode cX11_wrong 127 = .ok (.iload_n 3, 1) := nq_d dX11_wrong_70_g (n := 32) rfl
theorem dX11_wrong_128 : decode cX11_wrong 128 = .ok (.ifCond .lt 71, 3) := nq_d dX11_wrong_70_g (n := 33) rfl
theorem dX11_wrong_131 : decode cX11_wrong 131 = .ok (.aload_n 0, 1) := nq_d dX11_wrong_70_g (n := 34) rfl
theorem dX11_wrong_132 : decode cX11_wrong 132 = .ok (.getfield 62, 3) := nq_d dX11_wrong_70_g (n := 35) rfl
theorem dX11_wrong_135 : decode cX11_wrong 135 = .ok (.aload_n 0, 1) := nq_d dX11_wrong_70_g (n := 36) rfl
theorem dX11_wrong_136 : decode cX11_wrong 136 = .ok (.getfield 84, 3) := nq_d dX11_wrong_70_g (n := 37) rfl
theorem dX11_wrong_139 : decode cX11_wrong 139 = .ok (.bipush 7, 2) := nq_d dX11_wrong_70_g (n := 38) rfl
theorem dX11_wrong_141 : decode cX11_wrong 141 = .ok (.iload_n 3, 1) := nq_d dX11_wrong_70_g (n := 39) rfl
noncomputable def dX11_wrong_142_l : List (Nat × Instr × Nat) := [(142, .imul, 1), (143, .iconst 2, 1), (144, .iadd, 1), (145, .iaload, 1), (146, .iaload, 1), (147, .istore 5, 2), (149, .aload_n 0, 1), (150, .getfield 84, 3), (153, .bipush 7, 2), (155, .iload_n 3, 1), (156, .imul, 1), (157, .bipush 6, 2), (159, .iadd, 1), (160, .iaload, 1), (161, .iconst 1, 1), (162, .if_icmp .ne 7, 3), (165, .iload_n 3, 1), (166, .goto 31, 3), (169, .iload 5, 2), (171, .ifCond .lt 25, 3), (174, .aload_n 0, 1), (175, .getfield 84, 3), (178, .bipush 7, 2), (180, .iload 5, 2), (182, .imul, 1), (183, .bipush 6, 2), (185, .iadd, 1), (186, .iaload, 1), (187, .iconst 1, 1), (188, .if_icmp .ne 8, 3), (191, .iload 5, 2), (193, .goto 4, 3), (196, .iconst (-1), 1), (197, .istore 4, 2), (199, .iload 4, 2), (201, .ifCond .ge 7, 3), (204, .iconst (-1), 1), (205, .goto 24, 3), (208, .iload_n 2, 1), (209, .ifCond .ne 18, 3)]
set_option maxRecDepth 100000 in
theorem dX11_wrong_142_g : dX11_wrong_142_l.all (fun x => decide (decode cX11_wrong x.1 = .ok x.2)) = true := by decide +kernel
theorem dX11_wrong_142 : decode cX11_wrong 142 = .ok (.imul, 1) := nq_d dX11_wrong_142_g (n := 0) rfl
theorem dX11_wrong_143 : decode cX11_wrong 143 = .ok (.iconst 2, 1) := nq_d dX11_wrong_142_g (n := 1) rfl
theorem dX11_wrong_144 : decode cX11_wrong 144 = .ok (.iadd, 1) := nq_d dX11_wrong_142_g (n := 2) rfl
theorem dX11_wrong_145 : decode cX11_wrong 145 = .ok (.iaload, 1) := nq_d dX11_wrong_142_g (n := 3) rfl
theorem dX11_wrong_146 : decode cX11_wrong 146 = .ok (.iaload, 1) := nq_d dX11_wrong_142_g (n := 4) rfl
theorem dX11_wrong_147 : decode cX11_wrong 147 = .ok (.istore 5, 2) := nq_d dX11_wrong_142_g (n := 5) rfl
theorem dX11_wrong_149 : decode cX11_wrong 149 = .ok (.aload_n 0, 1) := nq_d dX11_wrong_142_g (n := 6) rfl
theorem dX11_wrong_150 : decode cX11_wrong 150 = .ok (.getfield 84, 3) := nq_d dX11_wrong_142_g (n := 7) rfl
theorem dX11_wrong_153 : decode cX11_wrong 153 = .ok (.bipush 7, 2) := nq_d dX11_wrong_142_g (n := 8) rfl
theorem dX11_wrong_155 : decode cX11_wrong 155 = .ok (.iload_n 3, 1) := nq_d dX11_wrong_142_g (n := 9) rfl
theorem dX11_wrong_156 : decode cX11_wrong 156 = .ok (.imul, 1) := nq_d dX11_wrong_142_g (n := 10) rfl
theorem dX11_wrong_157 : decode cX11_wrong 157 = .ok (.bipush 6, 2) := nq_d dX11_wrong_142_g (n := 11) rfl
theorem dX11_wrong_159 : decode cX11_wrong 159 = .ok (.iadd, 1) := nq_d dX11_wrong_142_g (n := 12) rfl
theorem dX11_wrong_160 : decode cX11_wrong 160 = .ok (.iaload, 1) := nq_d dX11_wrong_142_g (n := 13) rfl
theorem dX11_wrong_161 : decode cX11_wrong 161 = .ok (.iconst 1, 1) := nq_d dX11_wrong_142_g (n := 14) rfl
theorem dX11_wrong_162 : decode cX11_wrong 162 = .ok (.if_icmp .ne 7, 3) := nq_d dX11_wrong_142_g (n := 15) rfl
theorem dX11_wrong_165 : decode cX11_wrong 165 = .ok (.iload_n 3, 1) := nq_d dX11_wrong_142_g (n := 16) rfl
theorem dX11_wrong_166 : decode cX11_wrong 166 = .ok (.goto 31, 3) := nq_d dX11_wrong_142_g (n := 17) rfl
theorem dX11_wrong_169 : decode cX11_wrong 169 = .ok (.iload 5, 2) := nq_d dX11_wrong_142_g (n := 18) rfl
theorem dX11_wrong_171 : decode cX11_wrong 171 = .ok (.ifCond .lt 25, 3) := nq_d dX11_wrong_142_g (n := 19) rfl
theorem dX11_wrong_174 : decode cX11_wrong 174 = .ok (.aload_n 0, 1) := nq_d dX11_wrong_142_g (n := 20) rfl
theorem dX11_wrong_175 : decode cX11_wrong 175 = .ok (.getfield 84, 3) := nq_d dX11_wrong_142_g (n := 21) rfl
theorem dX11_wrong_178 : decode cX11_wrong 178 = .ok (.bipush 7, 2) := nq_d dX11_wrong_142_g (n := 22) rfl
theorem dX11_wrong_180 : decode cX11_wrong 180 = .ok (.iload 5, 2) := nq_d dX11_wrong_142_g (n := 23) rfl
theorem dX11_wrong_182 : decode cX11_wrong 182 = .ok (.imul, 1) := nq_d dX11_wrong_142_g (n := 24) rfl
theorem dX11_wrong_183 : decode cX11_wrong 183 = .ok (.bipush 6, 2) := nq_d dX11_wrong_142_g (n := 25) rfl
theorem dX11_wrong_185 : decode cX11_wrong 185 = .ok (.iadd, 1) := nq_d dX11_wrong_142_g (n := 26) rfl
theorem dX11_wrong_186 : decode cX11_wrong 186 = .ok (.iaload, 1) := nq_d dX11_wrong_142_g (n := 27) rfl
theorem dX11_wrong_187 : decode cX11_wrong 187 = .ok (.iconst 1, 1) := nq_d dX11_wrong_142_g (n := 28) rfl
theorem dX11_wrong_188 : decode cX11_wrong 188 = .ok (.if_icmp .ne 8, 3) := nq_d dX11_wrong_142_g (n := 29) rfl
theorem dX11_wrong_191 : decode cX11_wrong 191 = .ok (.iload 5, 2) := nq_d dX11_wrong_142_g (n := 30) rfl
theorem dX11_wrong_193 : decode cX11_wrong 193 = .ok (.goto 4, 3) := nq_d dX11_wrong_142_g (n := 31) rfl
theorem dX11_wrong_196 : decode cX11_wrong 196 = .ok (.iconst (-1), 1) := nq_d dX11_wrong_142_g (n := 32) rfl
theorem dX11_wrong_197 : decode cX11_wrong 197 = .ok (.istore 4, 2) := nq_d dX11_wrong_142_g (n := 33) rfl
theorem dX11_wrong_199 : decode cX11_wrong 199 = .ok (.iload 4, 2) := nq_d dX11_wrong_142_g (n := 34) rfl
theorem dX11_wrong_201 : decode cX11_wrong 201 = .ok (.ifCond .ge 7, 3) := nq_d dX11_wrong_142_g (n := 35) rfl
theorem dX11_wrong_204 : decode cX11_wrong 204 = .ok (.iconst (-1), 1) := nq_d dX11_wrong_142_g (n := 36) rfl
theorem dX11_wrong_205 : decode cX11_wrong 205 = .ok (.goto 24, 3) := nq_d dX11_wrong_142_g (n := 37) rfl
theorem dX11_wrong_208 : decode cX11_wrong 208 = .ok (.iload_n 2, 1) := nq_d dX11_wrong_142_g (n := 38) rfl
theorem dX11_wrong_209 : decode cX11_wrong 209 = .ok (.ifCond .ne 18, 3) := nq_d dX11_wrong_142_g (n := 39) rfl
noncomputable def dX11_wrong_212_l : List (Nat × Instr × Nat) := [(212, .aload_n 0, 1), (213, .getfield 84, 3), (216, .bipush 7, 2), (218, .iload 4, 2), (220, .imul, 1), (221, .iconst 1, 1), (222, .iadd, 1), (223, .iaload, 1), (224, .goto 5, 3), (227, .iload 4, 2), (229, .ireturn, 1)]
set_option maxRecDepth 100000 in
theorem dX11_wrong_212_g : dX11_wrong_212_l.all (fun x => decide (decode cX11_wrong x.1 = .ok x.2)) = true := by decide +kernel
theorem dX11_wrong_212 : decode cX11_wrong 212 = .ok (.aload_n 0, 1) := nq_d dX11_wrong_212_g (n := 0) rfl
theorem dX11_wrong_213 : decode cX11_wrong 213 = .ok (.getfield 84, 3) := nq_d dX11_wrong_212_g (n := 1) rfl
theorem dX11_wrong_216 : decode cX11_wrong 216 = .ok (.bipush 7, 2) := nq_d dX11_wrong_212_g (n := 2) rfl
theorem dX11_wrong_218 : decode cX11_wrong 218 = .ok (.iload 4, 2) := nq_d dX11_wrong_212_g (n := 3) rfl
theorem dX11_wrong_220 : decode cX11_wrong 220 = .ok (.imul, 1) := nq_d dX11_wrong_212_g (n := 4) rfl
theorem dX11_wrong_221 : decode cX11_wrong 221 = .ok (.iconst 1, 1) := nq_d dX11_wrong_212_g (n := 5) rfl
theorem dX11_wrong_222 : decode cX11_wrong 222 = .ok (.iadd, 1) := nq_d dX11_wrong_212_g (n := 6) rfl
theorem dX11_wrong_223 : decode cX11_wrong 223 = .ok (.iaload, 1) := nq_d dX11_wrong_212_g (n := 7) rfl
theorem dX11_wrong_224 : decode cX11_wrong 224 = .ok (.goto 5, 3) := nq_d dX11_wrong_212_g (n := 8) rfl
theorem dX11_wrong_227 : decode cX11_wrong 227 = .ok (.iload 4, 2) := nq_d dX11_wrong_212_g (n := 9) rfl
theorem dX11_wrong_229 : decode cX11_wrong 229 = .ok (.ireturn, 1) := nq_d dX11_wrong_212_g (n := 10) rfl
set_option maxRecDepth 100000 in
theorem ggX11_runRow_X11_pegOf : GoodIn wsX11_runRow wsX11_pegOf := goodIn_sub (sub_c (nq_m (n := 14) rfl) (sub_c (nq_m (n := 15) rfl) (sub_c (nq_m (n := 16) rfl) (sub_c (nq_m (n := 17) rfl) (sub_c (nq_m (n := 18) rfl) (sub_c (nq_m (n := 19) rfl) (sub_c (nq_m (n := 20) rfl) (sub_c (nq_m (n := 21) rfl) (sub_c (nq_m (n := 22) rfl) (sub_c (nq_m (n := 23) rfl) (sub_c (nq_m (n := 24) rfl) (sub_c (nq_m (n := 25) rfl) (sub_c (nq_m (n := 26) rfl) (sub_c (nq_m (n := 27) rfl) (sub_c (nq_m (n := 28) rfl) (sub_c (nq_m (n := 29) rfl) (sub_c (nq_m (n := 30) rfl) (sub_c (nq_m (n := 31) rfl) (sub_c (nq_m (n := 32) rfl) (sub_c (nq_m (n := 33) rfl) (sub_c (nq_m (n := 34) rfl) (sub_c (nq_m (n := 35) rfl) (sub_c (nq_m (n := 36) rfl) (sub_c (nq_m (n := 37) rfl) (sub_c (nq_m (n := 38) rfl) (sub_c (nq_m (n := 39) rfl) (sub_c (nq_m (n := 40) rfl) (sub_c (nq_m (n := 41) rfl) (sub_c (nq_m (n := 42) rfl) (sub_c (nq_m (n := 43) rfl) (sub_c (nq_m (n := 44) rfl) (sub_c (nq_m (n := 45) rfl) (sub_c (nq_m (n := 46) rfl) (sub_c (nq_m (n := 47) rfl) (sub_c (nq_m (n := 48) rfl) (sub_c (nq_m (n := 49) rfl) (sub_c (nq_m (n := 50) rfl) (sub_c (nq_m (n := 51) rfl) (sub_c (nq_m (n := 52) rfl) (sub_c (nq_m (n := 53) rfl) (sub_c (nq_m (n := 54) rfl) (sub_c (nq_m (n := 55) rfl) (sub_c (nq_m (n := 56) rfl) (sub_c (nq_m (n := 57) rfl) (sub_c (nq_m (n := 58) rfl) (sub_c (nq_m (n := 59) rfl) (sub_c (nq_m (n := 60) rfl) (sub_c (nq_m (n := 61) rfl) (sub_c (nq_m (n := 62) rfl) (sub_c (nq_m (n := 63) rfl) (sub_c (nq_m (n := 64) rfl) (sub_c (nq_m (n := 65) rfl) (sub_c (nq_m (n := 66) rfl) (sub_c (nq_m (n := 67) rfl) (sub_c (nq_m (n := 68) rfl) (sub_c (nq_m (n := 69) rfl) (sub_c (nq_m (n := 70) rfl) (sub_c (nq_m (n := 71) rfl) (sub_c (nq_m (n := 72) rfl) (sub_c (nq_m (n := 73) rfl) (sub_c (nq_m (n := 74) rfl) sub_n))))))))))))))))))))))))))))))))))))))))))))))))))))))))))))) (by decide +kernel)
set_option maxRecDepth 100000 in
theorem gX11_runRow_X11_pegOf : GoodIn wsX11_runRow (wsV RX11 258 RX11 yX11_pegOf wsX11_pegOf) := goodIn_app (goodIn_sub (sub_c (nq_m (n := 10) rfl) (sub_c (nq_m (n := 11) rfl) (sub_c (nq_m (n := 12) rfl) (sub_c (nq_m (n := 13) rfl) sub_n)))) (by decide +kernel)) ggX11_runRow_X11_pegOf
noncomputable def dX11_runRow_0_l : List (Nat × Instr × Nat) := [(0, .aload_n 0, 1), (1, .iconst 0, 1), (2, .putfield 315, 3), (5, .aload_n 0, 1), (6, .iconst 0, 1), (7, .putfield 318, 3), (10, .aload_n 0, 1), (11, .iconst 0, 1), (12, .putfield 321, 3), (15, .iconst 0, 1), (16, .istore_n 2, 1), (17, .iload_n 2, 1), (18, .iconst 4, 1), (19, .if_icmp .ge 16, 3), (22, .aload_n 0, 1), (23, .getfield 93, 3), (26, .iload_n 2, 1), (27, .iconst 0, 1), (28, .iastore, 1), (29, .iinc 2 1, 3), (32, .goto (-15), 3), (35, .iconst 0, 1), (36, .istore_n 2, 1), (37, .iload_n 2, 1), (38, .aload_n 0, 1), (39, .getfield 324, 3), (42, .if_icmp .ge 172, 3), (45, .aload_n 0, 1), (46, .getfield 90, 3), (49, .iload_n 2, 1), (50, .iaload, 1), (51, .istore_n 3, 1), (52, .iconst 0, 1), (53, .istore 4, 2), (55, .iconst 1, 1), (56, .istore 5, 2), (58, .iload 5, 2), (60, .iload_n 1, 1), (61, .if_icmp .ge 35, 3), (64, .aload_n 0, 1)]
set_option maxRecDepth 100000 in
theorem dX11_runRow_0_g : dX11_runRow_0_l.all (fun x => decide (decode cX11_runRow x.1 = .ok x.2)) = true := by decide +kernel
theorem dX11_runRow_0 : decode cX11_runRow 0 = .ok (.aload_n 0, 1) := nq_d dX11_runRow_0_g (n := 0) rfl
theorem dX11_runRow_1 : decode cX11_runRow 1 = .ok (.iconst 0, 1) := nq_d dX11_runRow_0_g (n := 1) rfl
theorem dX11_runRow_2 : decode cX11_runRow 2 = .ok (.putfield 315, 3) := nq_d dX11_runRow_0_g (n := 2) rfl
theorem dX11_runRow_5 : decode cX11_runRow 5 = .ok (.aload_n 0, 1) := nq_d dX11_runRow_0_g (n := 3) rfl
theorem dX11_runRow_6 : decode cX11_runRow 6 = .ok (.iconst 0, 1) := nq_d dX11_runRow_0_g (n := 4) rfl
theorem dX11_runRow_7 : decode cX11_runRow 7 = .ok (.putfield 318, 3) := nq_d dX11_runRow_0_g (n := 5) rfl
theorem dX11_runRow_10 : decode cX11_runRow 10 = .ok (.aload_n 0, 1) := nq_d dX11_runRow_0_g (n := 6) rfl
theorem dX11_runRow_11 : decode cX11_runRow 11 = .ok (.iconst 0, 1) := nq_d dX11_runRow_0_g (n := 7) rfl
theorem dX11_runRow_12 : decode cX11_runRow 12 = .ok (.putfield 321, 3) := nq_d dX11_runRow_0_g (n := 8) rfl
theorem dX11_runRow_15 : decode cX11_runRow 15 = .ok (.iconst 0, 1) := nq_d dX11_runRow_0_g (n := 9) rfl
theorem dX11_runRow_16 : decode cX11_runRow 16 = .ok (.istore_n 2, 1) := nq_d dX11_runRow_0_g (n := 10) rfl
theorem dX11_runRow_17 : decode cX11_runRow 17 = .ok (.iload_n 2, 1) := nq_d dX11_runRow_0_g (n := 11) rfl
theorem dX11_runRow_18 : decode cX11_runRow 18 = .ok (.iconst 4, 1) := nq_d dX11_runRow_0_g (n := 12) rfl
theorem dX11_runRow_19 : decode cX11_runRow 19 = .ok (.if_icmp .ge 16, 3) := nq_d dX11_runRow_0_g (n := 13) rfl
theorem dX11_runRow_22 : decode cX11_runRow 22 = .ok (.aload_n 0, 1) := nq_d dX11_runRow_0_g (n := 14) rfl
theorem dX11_runRow_23 : decode cX11_runRow 23 = .ok (.getfield 93, 3) := nq_d dX11_runRow_0_g (n := 15) rfl
theorem dX11_runRow_26 : decode cX11_runRow 26 = .ok (.iload_n 2, 1) := nq_d dX11_runRow_0_g (n := 16) rfl
theorem dX11_runRow_27 : decode cX11_runRow 27 = .ok (.iconst 0, 1) := nq_d dX11_runRow_0_g (n := 17) rfl
theorem dX11_runRow_28 : decode cX11_runRow 28 = .ok (.iastore, 1) := nq_d dX11_runRow_0_g (n := 18) rfl
theorem dX11_runRow_29 : decode cX11_runRow 29 = .ok (.iinc 2 1, 3) := nq_d dX11_runRow_0_g (n := 19) rfl
theorem dX11_runRow_32 : decode cX11_runRow 32 = .ok (.goto (-15), 3) := nq_d dX11_runRow_0_g (n := 20) rfl
theorem dX11_runRow_35 : decode cX11_runRow 35 = .ok (.iconst 0, 1) := nq_d dX11_runRow_0_g (n := 21) rfl
theorem dX11_runRow_36 : decode cX11_runRow 36 = .ok (.istore_n 2, 1) := nq_d dX11_runRow_0_g (n := 22) rfl
theorem dX11_runRow_37 : decode cX11_runRow 37 = .ok (.iload_n 2, 1) := nq_d dX11_runRow_0_g (n := 23) rfl
theorem dX11_runRow_38 : decode cX11_runRow 38 = .ok (.aload_n 0, 1) := nq_d dX11_runRow_0_g (n := 24) rfl
theorem dX11_runRow_39 : decode cX11_runRow 39 = .ok (.getfield 324, 3) := nq_d dX11_runRow_0_g (n := 25) rfl
theorem dX11_runRow_42 : decode cX11_runRow 42 = .ok (.if_icmp .ge 172, 3) := nq_d dX11_runRow_0_g (n := 26) rfl
theorem dX11_runRow_45 : decode cX11_runRow 45 = .ok (.aload_n 0, 1) := nq_d dX11_runRow_0_g (n := 27) rfl
theorem dX11_runRow_46 : decode cX11_runRow 46 = .ok (.getfield 90, 3) := nq_d dX11_runRow_0_g (n := 28) rfl
theorem dX11_runRow_49 : decode cX11_runRow 49 = .ok (.iload_n 2, 1) := nq_d dX11_runRow_0_g (n := 29) rfl
theorem dX11_runRow_50 : decode cX11_runRow 50 = .ok (.iaload, 1) := nq_d dX11_runRow_0_g (n := 30) rfl
theorem dX11_runRow_51 : decode cX11_runRow 51 = .ok (.istore_n 3, 1) := nq_d dX11_runRow_0_g (n := 31) rfl
theorem dX11_runRow_52 : decode cX11_runRow 52 = .ok (.iconst 0, 1) := nq_d dX11_runRow_0_g (n := 32) rfl
theorem dX11_runRow_53 : decode cX11_runRow 53 = .ok (.istore 4, 2) := nq_d dX11_runRow_0_g (n := 33) rfl
theorem dX11_runRow_55 : decode cX11_runRow 55 = .ok (.iconst 1, 1) := nq_d dX11_runRow_0_g (n := 34) rfl
theorem dX11_runRow_56 : decode cX11_runRow 56 = .ok (.istore 5, 2) := nq_d dX11_runRow_0_g (n := 35) rfl
theorem dX11_runRow_58 : decode cX11_runRow 58 = .ok (.iload 5, 2) := nq_d dX11_runRow_0_g (n := 36) rfl
theorem dX11_runRow_60 : decode cX11_runRow 60 = .ok (.iload_n 1, 1) := nq_d dX11_runRow_0_g (n := 37) rfl
theorem dX11_runRow_61 : decode cX11_runRow 61 = .ok (.if_icmp .ge 35, 3) := nq_d dX11_runRow_0_g (n := 38) rfl
theorem dX11_runRow_64 : decode cX11_runRow 64 = .ok (.aload_n 0, 1) := nq_d dX11_runRow_0_g (n := 39) rfl
noncomputable def dX11_runRow_65_l : List (Nat × Instr × Nat) := [(65, .getfield 93, 3), (68, .iload 5, 2), (70, .iaload, 1), (71, .aload_n 0, 1), (72, .getfield 93, 3), (75, .iload 4, 2), (77, .iaload, 1), (78, .if_icmp .ge 8, 3), (81, .iload 5, 2), (83, .goto 5, 3), (86, .iload 4, 2), (88, .istore 4, 2), (90, .iinc 5 1, 3), (93, .goto (-35), 3), (96, .aload_n 0, 1), (97, .getfield 93, 3), (100, .iload 4, 2), (102, .dup2, 1), (103, .iaload, 1), (104, .iconst 2, 1), (105, .aload_n 0, 1), (106, .getfield 13, 3), (109, .aload_n 0, 1), (110, .iload_n 3, 1), (111, .invokevirtual 258, 3), (114, .iaload, 1), (115, .imul, 1), (116, .aload_n 0, 1), (117, .getfield 19, 3), (120, .iconst 3, 1), (121, .iaload, 1), (122, .iadd, 1), (123, .iadd, 1), (124, .iastore, 1), (125, .aload_n 0, 1), (126, .getfield 93, 3), (129, .iload 4, 2), (131, .iaload, 1), (132, .istore 5, 2), (134, .aload_n 0, 1)]
set_option maxRecDepth 100000 in
theorem dX11_runRow_65_g : dX11_runRow_65_l.all (fun x => decide (decode cX11_runRow x.1 = .ok x.2)) = true := by decide +kernel
theorem dX11_runRow_65 : decode cX11_runRow 65 = .ok (.getfield 93, 3) := nq_d dX11_runRow_65_g (n := 0) rfl
theorem dX11_runRow_68 : decode cX11_runRow 68 = .ok (.iload 5, 2) := nq_d dX11_runRow_65_g (n := 1) rfl
theorem dX11_runRow_70 : decode cX11_runRow 70 = .ok (.iaload, 1) := nq_d dX11_runRow_65_g (n := 2) rfl
theorem dX11_runRow_71 : decode cX11_runRow 71 = .ok (.aload_n 0, 1) := nq_d dX11_runRow_65_g (n := 3) rfl
theorem dX11_runRow_72 : decode cX11_runRow 72 = .ok (.getfield 93, 3) := nq_d dX11_runRow_65_g (n := 4) rfl
theorem dX11_runRow_75 : decode cX11_runRow 75 = .ok (.iload 4, 2) := nq_d dX11_runRow_65_g (n := 5) rfl
theorem dX11_runRow_77 : decode cX11_runRow 77 = .ok (.iaload, 1) := nq_d dX11_runRow_65_g (n := 6) rfl
theorem dX11_runRow_78 : decode cX11_runRow 78 = .ok (.if_icmp .ge 8, 3) := nq_d dX11_runRow_65_g (n := 7) rfl
theorem dX11_runRow_81 : decode cX11_runRow 81 = .ok (.iload 5, 2) := nq_d dX11_runRow_65_g (n := 8) rfl
theorem dX11_runRow_83 : decode cX11_runRow 83 = .ok (.goto 5, 3) := nq_d dX11_runRow_65_g (n := 9) rfl
theorem dX11_runRow_86 : decode cX11_runRow 86 = .ok (.iload 4, 2) := nq_d dX11_runRow_65_g (n := 10) rfl
theorem dX11_runRow_88 : decode cX11_runRow 88 = .ok (.istore 4, 2) := nq_d dX11_runRow_65_g (n := 11) rfl
theorem dX11_runRow_90 : decode cX11_runRow 90 = .ok (.iinc 5 1, 3) := nq_d dX11_runRow_65_g (n := 12) rfl
theorem dX11_runRow_93 : decode cX11_runRow 93 = .ok (.goto (-35), 3) := nq_d dX11_runRow_65_g (n := 13) rfl
theorem dX11_runRow_96 : decode cX11_runRow 96 = .ok (.aload_n 0, 1) := nq_d dX11_runRow_65_g (n := 14) rfl
theorem dX11_runRow_97 : decode cX11_runRow 97 = .ok (.getfield 93, 3) := nq_d dX11_runRow_65_g (n := 15) rfl
theorem dX11_runRow_100 : decode cX11_runRow 100 = .ok (.iload 4, 2) := nq_d dX11_runRow_65_g (n := 16) rfl
theorem dX11_runRow_102 : decode cX11_runRow 102 = .ok (.dup2, 1) := nq_d dX11_runRow_65_g (n := 17) rfl
theorem dX11_runRow_103 : decode cX11_runRow 103 = .ok (.iaload, 1) := nq_d dX11_runRow_65_g (n := 18) rfl
theorem dX11_runRow_104 : decode cX11_runRow 104 = .ok (.iconst 2, 1) := nq_d dX11_runRow_65_g (n := 19) rfl
theorem dX11_runRow_105 : decode cX11_runRow 105 = .ok (.aload_n 0, 1) := nq_d dX11_runRow_65_g (n := 20) rfl
theorem dX11_runRow_106 : decode cX11_runRow 106 = .ok (.getfield 13, 3) := nq_d dX11_runRow_65_g (n := 21) rfl
theorem dX11_runRow_109 : decode cX11_runRow 109 = .ok (.aload_n 0, 1) := nq_d dX11_runRow_65_g (n := 22) rfl
theorem dX11_runRow_110 : decode cX11_runRow 110 = .ok (.iload_n 3, 1) := nq_d dX11_runRow_65_g (n := 23) rfl
theorem dX11_runRow_111 : decode cX11_runRow 111 = .ok (.invokevirtual 258, 3) := nq_d dX11_runRow_65_g (n := 24) rfl
theorem dX11_runRow_114 : decode cX11_runRow 114 = .ok (.iaload, 1) := nq_d dX11_runRow_65_g (n := 25) rfl
theorem dX11_runRow_115 : decode cX11_runRow 115 = .ok (.imul, 1) := nq_d dX11_runRow_65_g (n := 26) rfl
theorem dX11_runRow_116 : decode cX11_runRow 116 = .ok (.aload_n 0, 1) := nq_d dX11_runRow_65_g (n := 27) rfl
theorem dX11_runRow_117 : decode cX11_runRow 117 = .ok (.getfield 19, 3) := nq_d dX11_runRow_65_g (n := 28) rfl
theorem dX11_runRow_120 : decode cX11_runRow 120 = .ok (.iconst 3, 1) := nq_d dX11_runRow_65_g (n := 29) rfl
theorem dX11_runRow_121 : decode cX11_runRow 121 = .ok (.iaload, 1) := nq_d dX11_runRow_65_g (n := 30) rfl
theorem dX11_runRow_122 : decode cX11_runRow 122 = .ok (.iadd, 1) := nq_d dX11_runRow_65_g (n := 31) rfl
theorem dX11_runRow_123 : decode cX11_runRow 123 = .ok (.iadd, 1) := nq_d dX11_runRow_65_g (n := 32) rfl
theorem dX11_runRow_124 : decode cX11_runRow 124 = .ok (.iastore, 1) := nq_d dX11_runRow_65_g (n := 33) rfl
theorem dX11_runRow_125 : decode cX11_runRow 125 = .ok (.aload_n 0, 1) := nq_d dX11_runRow_65_g (n := 34) rfl
theorem dX11_runRow_126 : decode cX11_runRow 126 = .ok (.getfield 93, 3) := nq_d dX11_runRow_65_g (n := 35) rfl
theorem dX11_runRow_129 : decode cX11_runRow 129 = .ok (.iload 4, 2) := nq_d dX11_runRow_65_g (n := 36) rfl
theorem dX11_runRow_131 : decode cX11_runRow 131 = .ok (.iaload, 1) := nq_d dX11_runRow_65_g (n := 37) rfl
theorem dX11_runRow_132 : decode cX11_runRow 132 = .ok (.istore 5, 2) := nq_d dX11_runRow_65_g (n := 38) rfl
theorem dX11_runRow_134 : decode cX11_runRow 134 = .ok (.aload_n 0, 1) := nq_d dX11_runRow_65_g (n := 39) rfl
noncomputable def dX11_runRow_135_l : List (Nat × Instr × Nat) := [(135, .getfield 50, 3), (138, .iload_n 3, 1), (139, .iaload, 1), (140, .aload_n 0, 1), (141, .getfield 19, 3), (144, .iconst 4, 1), (145, .iaload, 1), (146, .iload 5, 2), (148, .imul, 1), (149, .bipush 10, 2), (151, .idiv, 1), (152, .isub, 1), (153, .istore 6, 2), (155, .aload_n 0, 1), (156, .dup, 1), (157, .getfield 315, 3), (160, .iload 5, 2), (162, .iadd, 1), (163, .putfield 315, 3), (166, .aload_n 0, 1), (167, .iload 5, 2), (169, .aload_n 0, 1), (170, .getfield 318, 3), (173, .if_icmp .le 8, 3), (176, .iload 5, 2), (178, .goto 7, 3), (181, .aload_n 0, 1), (182, .getfield 318, 3), (185, .putfield 318, 3), (188, .aload_n 0, 1), (189, .dup, 1), (190, .getfield 321, 3), (193, .iload 6, 2), (195, .ifCond .le 8, 3), (198, .iload 6, 2), (200, .goto 4, 3), (203, .iconst 0, 1), (204, .iadd, 1), (205, .putfield 321, 3), (208, .iinc 2 1, 3)]
set_option maxRecDepth 100000 in
theorem dX11_runRow_135_g : dX11_runRow_135_l.all (fun x => decide (decode cX11_runRow x.1 = .ok x.2)) = true := by decide +kernel
theorem dX11_runRow_135 : decode cX11_runRow 135 = .ok (.getfield 50, 3) := nq_d dX11_runRow_135_g (n := 0) rfl
theorem dX11_runRow_138 : decode cX11_runRow 138 = .ok (.iload_n 3, 1) := nq_d dX11_runRow_135_g (n := 1) rfl
theorem dX11_runRow_139 : decode cX11_runRow 139 = .ok (.iaload, 1) := nq_d dX11_runRow_135_g (n := 2) rfl
theorem dX11_runRow_140 : decode cX11_runRow 140 = .ok (.aload_n 0, 1) := nq_d dX11_runRow_135_g (n := 3) rfl
theorem dX11_runRow_141 : decode cX11_runRow 141 = .ok (.getfield 19, 3) := nq_d dX11_runRow_135_g (n := 4) rfl
theorem dX11_runRow_144 : decode cX11_runRow 144 = .ok (.iconst 4, 1) := nq_d dX11_runRow_135_g (n := 5) rfl
theorem dX11_runRow_145 : decode cX11_runRow 145 = .ok (.iaload, 1) := nq_d dX11_runRow_135_g (n := 6) rfl
theorem dX11_runRow_146 : decode cX11_runRow 146 = .ok (.iload 5, 2) := nq_d dX11_runRow_135_g (n := 7) rfl
theorem dX11_runRow_148 : decode cX11_runRow 148 = .ok (.imul, 1) := nq_d dX11_runRow_135_g (n := 8) rfl
theorem dX11_runRow_149 : decode cX11_runRow 149 = .ok (.bipush 10, 2) := nq_d dX11_runRow_135_g (n := 9) rfl
theorem dX11_runRow_151 : decode cX11_runRow 151 = .ok (.idiv, 1) := nq_d dX11_runRow_135_g (n := 10) rfl
theorem dX11_runRow_152 : decode cX11_runRow 152 = .ok (.isub, 1) := nq_d dX11_runRow_135_g (n := 11) rfl
theorem dX11_runRow_153 : decode cX11_runRow 153 = .ok (.istore 6, 2) := nq_d dX11_runRow_135_g (n := 12) rfl
theorem dX11_runRow_155 : decode cX11_runRow 155 = .ok (.aload_n 0, 1) := nq_d dX11_runRow_135_g (n := 13) rfl
theorem dX11_runRow_156 : decode cX11_runRow 156 = .ok (.dup, 1) := nq_d dX11_runRow_135_g (n := 14) rfl
theorem dX11_runRow_157 : decode cX11_runRow 157 = .ok (.getfield 315, 3) := nq_d dX11_runRow_135_g (n := 15) rfl
theorem dX11_runRow_160 : decode cX11_runRow 160 = .ok (.iload 5, 2) := nq_d dX11_runRow_135_g (n := 16) rfl
theorem dX11_runRow_162 : decode cX11_runRow 162 = .ok (.iadd, 1) := nq_d dX11_runRow_135_g (n := 17) rfl
theorem dX11_runRow_163 : decode cX11_runRow 163 = .ok (.putfield 315, 3) := nq_d dX11_runRow_135_g (n := 18) rfl
theorem dX11_runRow_166 : decode cX11_runRow 166 = .ok (.aload_n 0, 1) := nq_d dX11_runRow_135_g (n := 19) rfl
theorem dX11_runRow_167 : decode cX11_runRow 167 = .ok (.iload 5, 2) := nq_d dX11_runRow_135_g (n := 20) rfl
theorem dX11_runRow_169 : decode cX11_runRow 169 = .ok (.aload_n 0, 1) := nq_d dX11_runRow_135_g (n := 21) rfl
theorem dX11_runRow_170 : decode cX11_runRow 170 = .ok (.getfield 318, 3) := nq_d dX11_runRow_135_g (n := 22) rfl
theorem dX11_runRow_173 : decode cX11_runRow 173 = .ok (.if_icmp .le 8, 3) := nq_d dX11_runRow_135_g (n := 23) rfl
theorem dX11_runRow_176 : decode cX11_runRow 176 = .ok (.iload 5, 2) := nq_d dX11_runRow_135_g (n := 24) rfl
theorem dX11_runRow_178 : decode cX11_runRow 178 = .ok (.goto 7, 3) := nq_d dX11_runRow_135_g (n := 25) rfl
theorem dX11_runRow_181 : decode cX11_runRow 181 = .ok (.aload_n 0, 1) := nq_d dX11_runRow_135_g (n := 26) rfl
theorem dX11_runRow_182 : decode cX11_runRow 182 = .ok (.getfield 318, 3) := nq_d dX11_runRow_135_g (n := 27) rfl
theorem dX11_runRow_185 : decode cX11_runRow 185 = .ok (.putfield 318, 3) := nq_d dX11_runRow_135_g (n := 28) rfl
theorem dX11_runRow_188 : decode cX11_runRow 188 = .ok (.aload_n 0, 1) := nq_d dX11_runRow_135_g (n := 29) rfl
theorem dX11_runRow_189 : decode cX11_runRow 189 = .ok (.dup, 1) := nq_d dX11_runRow_135_g (n := 30) rfl
theorem dX11_runRow_190 : decode cX11_runRow 190 = .ok (.getfield 321, 3) := nq_d dX11_runRow_135_g (n := 31) rfl
theorem dX11_runRow_193 : decode cX11_runRow 193 = .ok (.iload 6, 2) := nq_d dX11_runRow_135_g (n := 32) rfl
theorem dX11_runRow_195 : decode cX11_runRow 195 = .ok (.ifCond .le 8, 3) := nq_d dX11_runRow_135_g (n := 33) rfl
theorem dX11_runRow_198 : decode cX11_runRow 198 = .ok (.iload 6, 2) := nq_d dX11_runRow_135_g (n := 34) rfl
theorem dX11_runRow_200 : decode cX11_runRow 200 = .ok (.goto 4, 3) := nq_d dX11_runRow_135_g (n := 35) rfl
theorem dX11_runRow_203 : decode cX11_runRow 203 = .ok (.iconst 0, 1) := nq_d dX11_runRow_135_g (n := 36) rfl
theorem dX11_runRow_204 : decode cX11_runRow 204 = .ok (.iadd, 1) := nq_d dX11_runRow_135_g (n := 37) rfl
theorem dX11_runRow_205 : decode cX11_runRow 205 = .ok (.putfield 321, 3) := nq_d dX11_runRow_135_g (n := 38) rfl
theorem dX11_runRow_208 : decode cX11_runRow 208 = .ok (.iinc 2 1, 3) := nq_d dX11_runRow_135_g (n := 39) rfl
noncomputable def dX11_runRow_211_l : List (Nat × Instr × Nat) := [(211, .goto (-174), 3), (214, .return_, 1)]
set_option maxRecDepth 100000 in
theorem dX11_runRow_211_g : dX11_runRow_211_l.all (fun x => decide (decode cX11_runRow x.1 = .ok x.2)) = true := by decide +kernel
theorem dX11_runRow_211 : decode cX11_runRow 211 = .ok (.goto (-174), 3) := nq_d dX11_runRow_211_g (n := 0) rfl
theorem dX11_runRow_214 : decode cX11_runRow 214 = .ok (.return_, 1) := nq_d dX11_runRow_211_g (n := 1) rfl
noncomputable def dX11_fillRow_0_l : List (Nat × Instr × Nat) := [(0, .aload_n 0, 1), (1, .iconst 0, 1), (2, .putfield 324, 3), (5, .iconst 0, 1), (6, .istore_n 2, 1), (7, .iload_n 2, 1), (8, .aload_n 0, 1), (9, .getfield 227, 3), (12, .if_icmp .ge 38, 3), (15, .iload_n 1, 1), (16, .iload_n 2, 1), (17, .ishr, 1), (18, .iconst 1, 1), (19, .iand, 1), (20, .iconst 1, 1), (21, .if_icmp .ne 23, 3), (24, .aload_n 0, 1), (25, .getfield 90, 3), (28, .aload_n 0, 1), (29, .getfield 324, 3), (32, .iload_n 2, 1), (33, .iastore, 1), (34, .aload_n 0, 1), (35, .dup, 1), (36, .getfield 324, 3), (39, .iconst 1, 1), (40, .iadd, 1), (41, .putfield 324, 3), (44, .iinc 2 1, 3), (47, .goto (-40), 3), (50, .return_, 1)]
set_option maxRecDepth 100000 in
theorem dX11_fillRow_0_g : dX11_fillRow_0_l.all (fun x => decide (decode cX11_fillRow x.1 = .ok x.2)) = true := by decide +kernel
theorem dX11_fillRow_0 : decode cX11_fillRow 0 = .ok (.aload_n 0, 1) := nq_d dX11_fillRow_0_g (n := 0) rfl
theorem dX11_fillRow_1 : decode cX11_fillRow 1 = .ok (.iconst 0, 1) := nq_d dX11_fillRow_0_g (n := 1) rfl
theorem dX11_fillRow_2 : decode cX11_fillRow 2 = .ok (.putfield 324, 3) := nq_d dX11_fillRow_0_g (n := 2) rfl
theorem dX11_fillRow_5 : decode cX11_fillRow 5 = .ok (.iconst 0, 1) := nq_d dX11_fillRow_0_g (n := 3) rfl
theorem dX11_fillRow_6 : decode cX11_fillRow 6 = .ok (.istore_n 2, 1) := nq_d dX11_fillRow_0_g (n := 4) rfl
theorem dX11_fillRow_7 : decode cX11_fillRow 7 = .ok (.iload_n 2, 1) := nq_d dX11_fillRow_0_g (n := 5) rfl
theorem dX11_fillRow_8 : decode cX11_fillRow 8 = .ok (.aload_n 0, 1) := nq_d dX11_fillRow_0_g (n := 6) rfl
theorem dX11_fillRow_9 : decode cX11_fillRow 9 = .ok (.getfield 227, 3) := nq_d dX11_fillRow_0_g (n := 7) rfl
theorem dX11_fillRow_12 : decode cX11_fillRow 12 = .ok (.if_icmp .ge 38, 3) := nq_d dX11_fillRow_0_g (n := 8) rfl
theorem dX11_fillRow_15 : decode cX11_fillRow 15 = .ok (.iload_n 1, 1) := nq_d dX11_fillRow_0_g (n := 9) rfl
theorem dX11_fillRow_16 : decode cX11_fillRow 16 = .ok (.iload_n 2, 1) := nq_d dX11_fillRow_0_g (n := 10) rfl
theorem dX11_fillRow_17 : decode cX11_fillRow 17 = .ok (.ishr, 1) := nq_d dX11_fillRow_0_g (n := 11) rfl
theorem dX11_fillRow_18 : decode cX11_fillRow 18 = .ok (.iconst 1, 1) := nq_d dX11_fillRow_0_g (n := 12) rfl
theorem dX11_fillRow_19 : decode cX11_fillRow 19 = .ok (.iand, 1) := nq_d dX11_fillRow_0_g (n := 13) rfl
theorem dX11_fillRow_20 : decode cX11_fillRow 20 = .ok (.iconst 1, 1) := nq_d dX11_fillRow_0_g (n := 14) rfl
theorem dX11_fillRow_21 : decode cX11_fillRow 21 = .ok (.if_icmp .ne 23, 3) := nq_d dX11_fillRow_0_g (n := 15) rfl
theorem dX11_fillRow_24 : decode cX11_fillRow 24 = .ok (.aload_n 0, 1) := nq_d dX11_fillRow_0_g (n := 16) rfl
theorem dX11_fillRow_25 : decode cX11_fillRow 25 = .ok (.getfield 90, 3) := nq_d dX11_fillRow_0_g (n := 17) rfl
theorem dX11_fillRow_28 : decode cX11_fillRow 28 = .ok (.aload_n 0, 1) := nq_d dX11_fillRow_0_g (n := 18) rfl
theorem dX11_fillRow_29 : decode cX11_fillRow 29 = .ok (.getfield 324, 3) := nq_d dX11_fillRow_0_g (n := 19) rfl
theorem dX11_fillRow_32 : decode cX11_fillRow 32 = .ok (.iload_n 2, 1) := nq_d dX11_fillRow_0_g (n := 20) rfl
theorem dX11_fillRow_33 : decode cX11_fillRow 33 = .ok (.iastore, 1) := nq_d dX11_fillRow_0_g (n := 21) rfl
theorem dX11_fillRow_34 : decode cX11_fillRow 34 = .ok (.aload_n 0, 1) := nq_d dX11_fillRow_0_g (n := 22) rfl
theorem dX11_fillRow_35 : decode cX11_fillRow 35 = .ok (.dup, 1) := nq_d dX11_fillRow_0_g (n := 23) rfl
theorem dX11_fillRow_36 : decode cX11_fillRow 36 = .ok (.getfield 324, 3) := nq_d dX11_fillRow_0_g (n := 24) rfl
theorem dX11_fillRow_39 : decode cX11_fillRow 39 = .ok (.iconst 1, 1) := nq_d dX11_fillRow_0_g (n := 25) rfl
theorem dX11_fillRow_40 : decode cX11_fillRow 40 = .ok (.iadd, 1) := nq_d dX11_fillRow_0_g (n := 26) rfl
theorem dX11_fillRow_41 : decode cX11_fillRow 41 = .ok (.putfield 324, 3) := nq_d dX11_fillRow_0_g (n := 27) rfl
theorem dX11_fillRow_44 : decode cX11_fillRow 44 = .ok (.iinc 2 1, 3) := nq_d dX11_fillRow_0_g (n := 28) rfl
theorem dX11_fillRow_47 : decode cX11_fillRow 47 = .ok (.goto (-40), 3) := nq_d dX11_fillRow_0_g (n := 29) rfl
theorem dX11_fillRow_50 : decode cX11_fillRow 50 = .ok (.return_, 1) := nq_d dX11_fillRow_0_g (n := 30) rfl
set_option maxRecDepth 100000 in
theorem ggX11_areHanging_X11_areGuests : GoodIn wsX11_areHanging wsX11_areGuests := goodIn_sub (sub_c (nq_m (n := 6) rfl) (sub_c (nq_m (n := 1) rfl) (sub_c (nq_m (n := 7) rfl) (sub_c (nq_m (n := 8) rfl) (sub_c (nq_m (n := 5) rfl) (sub_c (nq_m (n := 9) rfl) (sub_c (nq_m (n := 16) rfl) (sub_c (nq_m (n := 17) rfl) (sub_c (nq_m (n := 18) rfl) (sub_c (nq_m (n := 19) rfl) (sub_c (nq_m (n := 20) rfl) (sub_c (nq_m (n := 21) rfl) (sub_c (nq_m (n := 22) rfl) (sub_c (nq_m (n := 23) rfl) (sub_c (nq_m (n := 24) rfl) (sub_c (nq_m (n := 25) rfl) (sub_c (nq_m (n := 26) rfl) (sub_c (nq_m (n := 27) rfl) (sub_c (nq_m (n := 28) rfl) (sub_c (nq_m (n := 29) rfl) (sub_c (nq_m (n := 30) rfl) (sub_c (nq_m (n := 31) rfl) (sub_c (nq_m (n := 32) rfl) (sub_c (nq_m (n := 33) rfl) (sub_c (nq_m (n := 34) rfl) (sub_c (nq_m (n := 35) rfl) (sub_c (nq_m (n := 36) rfl) (sub_c (nq_m (n := 37) rfl) (sub_c (nq_m (n := 38) rfl) (sub_c (nq_m (n := 39) rfl) (sub_c (nq_m (n := 40) rfl) (sub_c (nq_m (n := 41) rfl) (sub_c (nq_m (n := 42) rfl) (sub_c (nq_m (n := 43) rfl) (sub_c (nq_m (n := 44) rfl) (sub_c (nq_m (n := 45) rfl) (sub_c (nq_m (n := 46) rfl) (sub_c (nq_m (n := 47) rfl) (sub_c (nq_m (n := 48) rfl) (sub_c (nq_m (n := 49) rfl) (sub_c (nq_m (n := 50) rfl) (sub_c (nq_m (n := 51) rfl) (sub_c (nq_m (n := 52) rfl) (sub_c (nq_m (n := 53) rfl) (sub_c (nq_m (n := 54) rfl) (sub_c (nq_m (n := 55) rfl) (sub_c (nq_m (n := 56) rfl) (sub_c (nq_m (n := 57) rfl) (sub_c (nq_m (n := 58) rfl) (sub_c (nq_m (n := 59) rfl) (sub_c (nq_m (n := 60) rfl) (sub_c (nq_m (n := 61) rfl) (sub_c (nq_m (n := 62) rfl) (sub_c (nq_m (n := 63) rfl) (sub_c (nq_m (n := 64) rfl) (sub_c (nq_m (n := 65) rfl) (sub_c (nq_m (n := 66) rfl) (sub_c (nq_m (n := 67) rfl) (sub_c (nq_m (n := 68) rfl) (sub_c (nq_m (n := 69) rfl) (sub_c (nq_m (n := 70) rfl) (sub_c (nq_m (n := 71) rfl) (sub_c (nq_m (n := 72) rfl) (sub_c (nq_m (n := 73) rfl) sub_n)))))))))))))))))))))))))))))))))))))))))))))))))))))))))))))))) (by decide +kernel)
set_option maxRecDepth 100000 in
theorem gX11_areHanging_X11_areGuests : GoodIn wsX11_areHanging (wsV RX11 327 RX11 yX11_areGuests wsX11_areGuests) := goodIn_app (goodIn_sub (sub_c (nq_m (n := 2) rfl) (sub_c (nq_m (n := 3) rfl) (sub_c (nq_m (n := 4) rfl) (sub_c (nq_m (n := 5) rfl) sub_n)))) (by decide +kernel)) ggX11_areHanging_X11_areGuests
set_option maxRecDepth 100000 in
theorem ggX11_areHanging_X11_pegOf : GoodIn wsX11_areHanging wsX11_pegOf := goodIn_sub (sub_c (nq_m (n := 13) rfl) (sub_c (nq_m (n := 14) rfl) (sub_c (nq_m (n := 15) rfl) (sub_c (nq_m (n := 16) rfl) (sub_c (nq_m (n := 17) rfl) (sub_c (nq_m (n := 18) rfl) (sub_c (nq_m (n := 19) rfl) (sub_c (nq_m (n := 20) rfl) (sub_c (nq_m (n := 21) rfl) (sub_c (nq_m (n := 22) rfl) (sub_c (nq_m (n := 23) rfl) (sub_c (nq_m (n := 24) rfl) (sub_c (nq_m (n := 25) rfl) (sub_c (nq_m (n := 26) rfl) (sub_c (nq_m (n := 27) rfl) (sub_c (nq_m (n := 28) rfl) (sub_c (nq_m (n := 29) rfl) (sub_c (nq_m (n := 30) rfl) (sub_c (nq_m (n := 31) rfl) (sub_c (nq_m (n := 32) rfl) (sub_c (nq_m (n := 33) rfl) (sub_c (nq_m (n := 34) rfl) (sub_c (nq_m (n := 35) rfl) (sub_c (nq_m (n := 36) rfl) (sub_c (nq_m (n := 37) rfl) (sub_c (nq_m (n := 38) rfl) (sub_c (nq_m (n := 39) rfl) (sub_c (nq_m (n := 40) rfl) (sub_c (nq_m (n := 41) rfl) (sub_c (nq_m (n := 42) rfl) (sub_c (nq_m (n := 43) rfl) (sub_c (nq_m (n := 44) rfl) (sub_c (nq_m (n := 45) rfl) (sub_c (nq_m (n := 46) rfl) (sub_c (nq_m (n := 47) rfl) (sub_c (nq_m (n := 48) rfl) (sub_c (nq_m (n := 49) rfl) (sub_c (nq_m (n := 50) rfl) (sub_c (nq_m (n := 51) rfl) (sub_c (nq_m (n := 52) rfl) (sub_c (nq_m (n := 53) rfl) (sub_c (nq_m (n := 54) rfl) (sub_c (nq_m (n := 55) rfl) (sub_c (nq_m (n := 56) rfl) (sub_c (nq_m (n := 57) rfl) (sub_c (nq_m (n := 58) rfl) (sub_c (nq_m (n := 59) rfl) (sub_c (nq_m (n := 60) rfl) (sub_c (nq_m (n := 61) rfl) (sub_c (nq_m (n := 62) rfl) (sub_c (nq_m (n := 63) rfl) (sub_c (nq_m (n := 64) rfl) (sub_c (nq_m (n := 65) rfl) (sub_c (nq_m (n := 66) rfl) (sub_c (nq_m (n := 67) rfl) (sub_c (nq_m (n := 68) rfl) (sub_c (nq_m (n := 69) rfl) (sub_c (nq_m (n := 70) rfl) (sub_c (nq_m (n := 71) rfl) (sub_c (nq_m (n := 72) rfl) (sub_c (nq_m (n := 73) rfl) sub_n))))))))))))))))))))))))))))))))))))))))))))))))))))))))))))) (by decide +kernel)
set_option maxRecDepth 100000 in
theorem gX11_areHanging_X11_pegOf : GoodIn wsX11_areHanging (wsV RX11 258 RX11 yX11_pegOf wsX11_pegOf) := goodIn_app (goodIn_sub (sub_c (nq_m (n := 10) rfl) (sub_c (nq_m (n := 11) rfl) (sub_c (nq_m (n := 12) rfl) (sub_c (nq_m (n := 5) rfl) sub_n)))) (by decide +kernel)) ggX11_areHanging_X11_pegOf
noncomputable def dX11_areHanging_0_l : List (Nat × Instr × Nat) := [(0, .aload_n 0, 1), (1, .iload_n 1, 1), (2, .invokevirtual 327, 3), (5, .istore_n 2, 1), (6, .iconst 0, 1), (7, .istore_n 3, 1), (8, .iload_n 3, 1), (9, .aload_n 0, 1), (10, .getfield 227, 3), (13, .if_icmp .ge 35, 3), (16, .iload_n 2, 1), (17, .ifCond .eq 31, 3), (20, .iload_n 1, 1), (21, .iload_n 3, 1), (22, .ishr, 1), (23, .iconst 1, 1), (24, .iand, 1), (25, .ifCond .eq 11, 3), (28, .aload_n 0, 1), (29, .iload_n 3, 1), (30, .invokevirtual 258, 3), (33, .ifCond .lt 7, 3), (36, .iconst 1, 1), (37, .goto 4, 3), (40, .iconst 0, 1), (41, .istore_n 2, 1), (42, .iinc 3 1, 3), (45, .goto (-37), 3), (48, .iload_n 2, 1), (49, .ireturn, 1)]
set_option maxRecDepth 100000 in
theorem dX11_areHanging_0_g : dX11_areHanging_0_l.all (fun x => decide (decode cX11_areHanging x.1 = .ok x.2)) = true := by decide +kernel
theorem dX11_areHanging_0 : decode cX11_areHanging 0 = .ok (.aload_n 0, 1) := nq_d dX11_areHanging_0_g (n := 0) rfl
theorem dX11_areHanging_1 : decode cX11_areHanging 1 = .ok (.iload_n 1, 1) := nq_d dX11_areHanging_0_g (n := 1) rfl
theorem dX11_areHanging_2 : decode cX11_areHanging 2 = .ok (.invokevirtual 327, 3) := nq_d dX11_areHanging_0_g (n := 2) rfl
theorem dX11_areHanging_5 : decode cX11_areHanging 5 = .ok (.istore_n 2, 1) := nq_d dX11_areHanging_0_g (n := 3) rfl
theorem dX11_areHanging_6 : decode cX11_areHanging 6 = .ok (.iconst 0, 1) := nq_d dX11_areHanging_0_g (n := 4) rfl
theorem dX11_areHanging_7 : decode cX11_areHanging 7 = .ok (.istore_n 3, 1) := nq_d dX11_areHanging_0_g (n := 5) rfl
theorem dX11_areHanging_8 : decode cX11_areHanging 8 = .ok (.iload_n 3, 1) := nq_d dX11_areHanging_0_g (n := 6) rfl
theorem dX11_areHanging_9 : decode cX11_areHanging 9 = .ok (.aload_n 0, 1) := nq_d dX11_areHanging_0_g (n := 7) rfl
theorem dX11_areHanging_10 : decode cX11_areHanging 10 = .ok (.getfield 227, 3) := nq_d dX11_areHanging_0_g (n := 8) rfl
theorem dX11_areHanging_13 : decode cX11_areHanging 13 = .ok (.if_icmp .ge 35, 3) := nq_d dX11_areHanging_0_g (n := 9) rfl
theorem dX11_areHanging_16 : decode cX11_areHanging 16 = .ok (.iload_n 2, 1) := nq_d dX11_areHanging_0_g (n := 10) rfl
theorem dX11_areHanging_17 : decode cX11_areHanging 17 = .ok (.ifCond .eq 31, 3) := nq_d dX11_areHanging_0_g (n := 11) rfl
theorem dX11_areHanging_20 : decode cX11_areHanging 20 = .ok (.iload_n 1, 1) := nq_d dX11_areHanging_0_g (n := 12) rfl
theorem dX11_areHanging_21 : decode cX11_areHanging 21 = .ok (.iload_n 3, 1) := nq_d dX11_areHanging_0_g (n := 13) rfl
theorem dX11_areHanging_22 : decode cX11_areHanging 22 = .ok (.ishr, 1) := nq_d dX11_areHanging_0_g (n := 14) rfl
theorem dX11_areHanging_23 : decode cX11_areHanging 23 = .ok (.iconst 1, 1) := nq_d dX11_areHanging_0_g (n := 15) rfl
theorem dX11_areHanging_24 : decode cX11_areHanging 24 = .ok (.iand, 1) := nq_d dX11_areHanging_0_g (n := 16) rfl
theorem dX11_areHanging_25 : decode cX11_areHanging 25 = .ok (.ifCond .eq 11, 3) := nq_d dX11_areHanging_0_g (n := 17) rfl
theorem dX11_areHanging_28 : decode cX11_areHanging 28 = .ok (.aload_n 0, 1) := nq_d dX11_areHanging_0_g (n := 18) rfl
theorem dX11_areHanging_29 : decode cX11_areHanging 29 = .ok (.iload_n 3, 1) := nq_d dX11_areHanging_0_g (n := 19) rfl
theorem dX11_areHanging_30 : decode cX11_areHanging 30 = .ok (.invokevirtual 258, 3) := nq_d dX11_areHanging_0_g (n := 20) rfl
theorem dX11_areHanging_33 : decode cX11_areHanging 33 = .ok (.ifCond .lt 7, 3) := nq_d dX11_areHanging_0_g (n := 21) rfl
theorem dX11_areHanging_36 : decode cX11_areHanging 36 = .ok (.iconst 1, 1) := nq_d dX11_areHanging_0_g (n := 22) rfl
theorem dX11_areHanging_37 : decode cX11_areHanging 37 = .ok (.goto 4, 3) := nq_d dX11_areHanging_0_g (n := 23) rfl
theorem dX11_areHanging_40 : decode cX11_areHanging 40 = .ok (.iconst 0, 1) := nq_d dX11_areHanging_0_g (n := 24) rfl
theorem dX11_areHanging_41 : decode cX11_areHanging 41 = .ok (.istore_n 2, 1) := nq_d dX11_areHanging_0_g (n := 25) rfl
theorem dX11_areHanging_42 : decode cX11_areHanging 42 = .ok (.iinc 3 1, 3) := nq_d dX11_areHanging_0_g (n := 26) rfl
theorem dX11_areHanging_45 : decode cX11_areHanging 45 = .ok (.goto (-37), 3) := nq_d dX11_areHanging_0_g (n := 27) rfl
theorem dX11_areHanging_48 : decode cX11_areHanging 48 = .ok (.iload_n 2, 1) := nq_d dX11_areHanging_0_g (n := 28) rfl
theorem dX11_areHanging_49 : decode cX11_areHanging 49 = .ok (.ireturn, 1) := nq_d dX11_areHanging_0_g (n := 29) rfl
set_option maxRecDepth 100000 in
theorem ggX11_rush_X11_areHanging : GoodIn wsX11_rush wsX11_areHanging := goodIn_sub (sub_c (nq_m (n := 10) rfl) (sub_c (nq_m (n := 11) rfl) (sub_c (nq_m (n := 12) rfl) (sub_c (nq_m (n := 13) rfl) (sub_c (nq_m (n := 14) rfl) (sub_c (nq_m (n := 9) rfl) (sub_c (nq_m (n := 15) rfl) (sub_c (nq_m (n := 16) rfl) (sub_c (nq_m (n := 17) rfl) (sub_c (nq_m (n := 18) rfl) (sub_c (nq_m (n := 19) rfl) (sub_c (nq_m (n := 20) rfl) (sub_c (nq_m (n := 21) rfl) (sub_c (nq_m (n := 22) rfl) (sub_c (nq_m (n := 23) rfl) (sub_c (nq_m (n := 24) rfl) (sub_c (nq_m (n := 39) rfl) (sub_c (nq_m (n := 40) rfl) (sub_c (nq_m (n := 41) rfl) (sub_c (nq_m (n := 42) rfl) (sub_c (nq_m (n := 43) rfl) (sub_c (nq_m (n := 44) rfl) (sub_c (nq_m (n := 45) rfl) (sub_c (nq_m (n := 46) rfl) (sub_c (nq_m (n := 47) rfl) (sub_c (nq_m (n := 48) rfl) (sub_c (nq_m (n := 49) rfl) (sub_c (nq_m (n := 50) rfl) (sub_c (nq_m (n := 51) rfl) (sub_c (nq_m (n := 52) rfl) (sub_c (nq_m (n := 53) rfl) (sub_c (nq_m (n := 54) rfl) (sub_c (nq_m (n := 55) rfl) (sub_c (nq_m (n := 56) rfl) (sub_c (nq_m (n := 57) rfl) (sub_c (nq_m (n := 58) rfl) (sub_c (nq_m (n := 59) rfl) (sub_c (nq_m (n := 60) rfl) (sub_c (nq_m (n := 61) rfl) (sub_c (nq_m (n := 62) rfl) (sub_c (nq_m (n := 63) rfl) (sub_c (nq_m (n := 64) rfl) (sub_c (nq_m (n := 65) rfl) (sub_c (nq_m (n := 66) rfl) (sub_c (nq_m (n := 67) rfl) (sub_c (nq_m (n := 68) rfl) (sub_c (nq_m (n := 69) rfl) (sub_c (nq_m (n := 70) rfl) (sub_c (nq_m (n := 71) rfl) (sub_c (nq_m (n := 72) rfl) (sub_c (nq_m (n := 73) rfl) (sub_c (nq_m (n := 74) rfl) (sub_c (nq_m (n := 75) rfl) (sub_c (nq_m (n := 76) rfl) (sub_c (nq_m (n := 77) rfl) (sub_c (nq_m (n := 78) rfl) (sub_c (nq_m (n := 79) rfl) (sub_c (nq_m (n := 80) rfl) (sub_c (nq_m (n := 81) rfl) (sub_c (nq_m (n := 82) rfl) (sub_c (nq_m (n := 83) rfl) (sub_c (nq_m (n := 84) rfl) (sub_c (nq_m (n := 85) rfl) (sub_c (nq_m (n := 86) rfl) (sub_c (nq_m (n := 87) rfl) (sub_c (nq_m (n := 88) rfl) (sub_c (nq_m (n := 89) rfl) (sub_c (nq_m (n := 90) rfl) (sub_c (nq_m (n := 91) rfl) (sub_c (nq_m (n := 92) rfl) (sub_c (nq_m (n := 93) rfl) (sub_c (nq_m (n := 94) rfl) (sub_c (nq_m (n := 95) rfl) (sub_c (nq_m (n := 96) rfl) sub_n)))))))))))))))))))))))))))))))))))))))))))))))))))))))))))))))))))))))))) (by decide +kernel)
set_option maxRecDepth 100000 in
theorem gX11_rush_X11_areHanging : GoodIn wsX11_rush (wsV RX11 330 RX11 yX11_areHanging wsX11_areHanging) := goodIn_app (goodIn_sub (sub_c (nq_m (n := 6) rfl) (sub_c (nq_m (n := 7) rfl) (sub_c (nq_m (n := 8) rfl) (sub_c (nq_m (n := 9) rfl) sub_n)))) (by decide +kernel)) ggX11_rush_X11_areHanging
set_option maxRecDepth 100000 in
theorem ggX11_rush_X11_in : GoodIn wsX11_rush wsX11_in := goodIn_sub (sub_c (nq_m (n := 18) rfl) sub_n) (by decide +kernel)
set_option maxRecDepth 100000 in
theorem gX11_rush_X11_in : GoodIn wsX11_rush (va_wsS RX11 126 yX11_in wsX11_in) := goodIn_app (goodIn_sub (sub_c (nq_m (n := 16) rfl) (sub_c (nq_m (n := 17) rfl) (sub_c (nq_m (n := 9) rfl) sub_n))) (by decide +kernel)) ggX11_rush_X11_in
set_option maxRecDepth 100000 in
theorem ggX11_rush_X11_fillRow : GoodIn wsX11_rush wsX11_fillRow := goodIn_sub (sub_c (nq_m (n := 28) rfl) (sub_c (nq_m (n := 29) rfl) (sub_c (nq_m (n := 11) rfl) (sub_c (nq_m (n := 30) rfl) (sub_c (nq_m (n := 39) rfl) (sub_c (nq_m (n := 40) rfl) (sub_c (nq_m (n := 41) rfl) (sub_c (nq_m (n := 42) rfl) (sub_c (nq_m (n := 43) rfl) (sub_c (nq_m (n := 44) rfl) (sub_c (nq_m (n := 45) rfl) (sub_c (nq_m (n := 46) rfl) (sub_c (nq_m (n := 47) rfl) (sub_c (nq_m (n := 48) rfl) (sub_c (nq_m (n := 49) rfl) (sub_c (nq_m (n := 50) rfl) (sub_c (nq_m (n := 51) rfl) (sub_c (nq_m (n := 52) rfl) (sub_c (nq_m (n := 53) rfl) (sub_c (nq_m (n := 54) rfl) (sub_c (nq_m (n := 55) rfl) (sub_c (nq_m (n := 56) rfl) (sub_c (nq_m (n := 57) rfl) (sub_c (nq_m (n := 58) rfl) (sub_c (nq_m (n := 59) rfl) (sub_c (nq_m (n := 60) rfl) (sub_c (nq_m (n := 61) rfl) (sub_c (nq_m (n := 62) rfl) (sub_c (nq_m (n := 63) rfl) (sub_c (nq_m (n := 64) rfl) (sub_c (nq_m (n := 65) rfl) (sub_c (nq_m (n := 66) rfl) (sub_c (nq_m (n := 67) rfl) (sub_c (nq_m (n := 68) rfl) (sub_c (nq_m (n := 69) rfl) (sub_c (nq_m (n := 70) rfl) (sub_c (nq_m (n := 71) rfl) (sub_c (nq_m (n := 72) rfl) (sub_c (nq_m (n := 73) rfl) (sub_c (nq_m (n := 74) rfl) (sub_c (nq_m (n := 75) rfl) (sub_c (nq_m (n := 76) rfl) (sub_c (nq_m (n := 77) rfl) (sub_c (nq_m (n := 78) rfl) (sub_c (nq_m (n := 79) rfl) (sub_c (nq_m (n := 80) rfl) (sub_c (nq_m (n := 81) rfl) (sub_c (nq_m (n := 82) rfl) (sub_c (nq_m (n := 83) rfl) (sub_c (nq_m (n := 84) rfl) (sub_c (nq_m (n := 85) rfl) (sub_c (nq_m (n := 86) rfl) (sub_c (nq_m (n := 87) rfl) (sub_c (nq_m (n := 88) rfl) (sub_c (nq_m (n := 89) rfl) (sub_c (nq_m (n := 90) rfl) (sub_c (nq_m (n := 91) rfl) (sub_c (nq_m (n := 92) rfl) (sub_c (nq_m (n := 93) rfl) (sub_c (nq_m (n := 94) rfl) (sub_c (nq_m (n := 95) rfl) (sub_c (nq_m (n := 96) rfl) sub_n)))))))))))))))))))))))))))))))))))))))))))))))))))))))))))))) (by decide +kernel)
set_option maxRecDepth 100000 in
theorem gX11_rush_X11_fillRow : GoodIn wsX11_rush (wsV RX11 335 RX11 yX11_fillRow wsX11_fillRow) := goodIn_app (goodIn_sub (sub_c (nq_m (n := 25) rfl) (sub_c (nq_m (n := 26) rfl) (sub_c (nq_m (n := 27) rfl) (sub_c (nq_m (n := 9) rfl) sub_n)))) (by decide +kernel)) ggX11_rush_X11_fillRow
set_option maxRecDepth 100000 in
theorem ggX11_rush_X11_runRow : GoodIn wsX11_rush wsX11_runRow := goodIn_sub (sub_c (nq_m (n := 34) rfl) (sub_c (nq_m (n := 3) rfl) (sub_c (nq_m (n := 4) rfl) (sub_c (nq_m (n := 5) rfl) (sub_c (nq_m (n := 35) rfl) (sub_c (nq_m (n := 29) rfl) (sub_c (nq_m (n := 30) rfl) (sub_c (nq_m (n := 36) rfl) (sub_c (nq_m (n := 37) rfl) (sub_c (nq_m (n := 38) rfl) (sub_c (nq_m (n := 19) rfl) (sub_c (nq_m (n := 20) rfl) (sub_c (nq_m (n := 21) rfl) (sub_c (nq_m (n := 9) rfl) (sub_c (nq_m (n := 22) rfl) (sub_c (nq_m (n := 23) rfl) (sub_c (nq_m (n := 24) rfl) (sub_c (nq_m (n := 39) rfl) (sub_c (nq_m (n := 40) rfl) (sub_c (nq_m (n := 41) rfl) (sub_c (nq_m (n := 42) rfl) (sub_c (nq_m (n := 43) rfl) (sub_c (nq_m (n := 44) rfl) (sub_c (nq_m (n := 45) rfl) (sub_c (nq_m (n := 46) rfl) (sub_c (nq_m (n := 47) rfl) (sub_c (nq_m (n := 48) rfl) (sub_c (nq_m (n := 49) rfl) (sub_c (nq_m (n := 50) rfl) (sub_c (nq_m (n := 51) rfl) (sub_c (nq_m (n := 52) rfl) (sub_c (nq_m (n := 53) rfl) (sub_c (nq_m (n := 54) rfl) (sub_c (nq_m (n := 55) rfl) (sub_c (nq_m (n := 56) rfl) (sub_c (nq_m (n := 57) rfl) (sub_c (nq_m (n := 58) rfl) (sub_c (nq_m (n := 59) rfl) (sub_c (nq_m (n := 60) rfl) (sub_c (nq_m (n := 61) rfl) (sub_c (nq_m (n := 62) rfl) (sub_c (nq_m (n := 63) rfl) (sub_c (nq_m (n := 64) rfl) (sub_c (nq_m (n := 65) rfl) (sub_c (nq_m (n := 66) rfl) (sub_c (nq_m (n := 67) rfl) (sub_c (nq_m (n := 68) rfl) (sub_c (nq_m (n := 69) rfl) (sub_c (nq_m (n := 70) rfl) (sub_c (nq_m (n := 71) rfl) (sub_c (nq_m (n := 72) rfl) (sub_c (nq_m (n := 73) rfl) (sub_c (nq_m (n := 74) rfl) (sub_c (nq_m (n := 75) rfl) (sub_c (nq_m (n := 76) rfl) (sub_c (nq_m (n := 77) rfl) (sub_c (nq_m (n := 78) rfl) (sub_c (nq_m (n := 79) rfl) (sub_c (nq_m (n := 80) rfl) (sub_c (nq_m (n := 81) rfl) (sub_c (nq_m (n := 82) rfl) (sub_c (nq_m (n := 83) rfl) (sub_c (nq_m (n := 84) rfl) (sub_c (nq_m (n := 85) rfl) (sub_c (nq_m (n := 86) rfl) (sub_c (nq_m (n := 87) rfl) (sub_c (nq_m (n := 88) rfl) (sub_c (nq_m (n := 89) rfl) (sub_c (nq_m (n := 90) rfl) (sub_c (nq_m (n := 91) rfl) (sub_c (nq_m (n := 92) rfl) (sub_c (nq_m (n := 93) rfl) (sub_c (nq_m (n := 94) rfl) (sub_c (nq_m (n := 95) rfl) (sub_c (nq_m (n := 96) rfl) sub_n))))))))))))))))))))))))))))))))))))))))))))))))))))))))))))))))))))))))))) (by decide +kernel)
set_option maxRecDepth 100000 in
theorem gX11_rush_X11_runRow : GoodIn wsX11_rush (wsV RX11 338 RX11 yX11_runRow wsX11_runRow) := goodIn_app (goodIn_sub (sub_c (nq_m (n := 31) rfl) (sub_c (nq_m (n := 32) rfl) (sub_c (nq_m (n := 33) rfl) (sub_c (nq_m (n := 9) rfl) sub_n)))) (by decide +kernel)) ggX11_rush_X11_runRow
noncomputable def dX11_rush_0_l : List (Nat × Instr × Nat) := [(0, .aload_n 0, 1), (1, .iload_n 1, 1), (2, .invokevirtual 330, 3), (5, .ifCond .ne 7, 3), (8, .sipush (-1001), 3), (11, .ireturn, 1), (12, .iload_n 2, 1), (13, .i2l, 1), (14, .lconst 1, 1), (15, .ldc2_w 333, 3), (18, .invokestatic 126, 3), (21, .ifCond .eq 15, 3), (24, .iload_n 3, 1), (25, .i2l, 1), (26, .lconst 0, 1), (27, .ldc2_w 236, 3), (30, .invokestatic 126, 3), (33, .ifCond .ne 7, 3), (36, .sipush (-1002), 3), (39, .ireturn, 1), (40, .aload_n 0, 1), (41, .iload_n 1, 1), (42, .invokevirtual 335, 3), (45, .aload_n 0, 1), (46, .iload_n 2, 1), (47, .invokevirtual 338, 3), (50, .iload_n 3, 1), (51, .ifCond .ne 10, 3), (54, .aload_n 0, 1), (55, .getfield 315, 3), (58, .goto 19, 3), (61, .iload_n 3, 1), (62, .iconst 1, 1), (63, .if_icmp .ne 10, 3), (66, .aload_n 0, 1), (67, .getfield 318, 3), (70, .goto 7, 3), (73, .aload_n 0, 1), (74, .getfield 321, 3), (77, .ireturn, 1)]
set_option maxRecDepth 100000 in
theorem dX11_rush_0_g : dX11_rush_0_l.all (fun x => decide (decode cX11_rush x.1 = .ok x.2)) = true := by decide +kernel
theorem dX11_rush_0 : decode cX11_rush 0 = .ok (.aload_n 0, 1) := nq_d dX11_rush_0_g (n := 0) rfl
theorem dX11_rush_1 : decode cX11_rush 1 = .ok (.iload_n 1, 1) := nq_d dX11_rush_0_g (n := 1) rfl
theorem dX11_rush_2 : decode cX11_rush 2 = .ok (.invokevirtual 330, 3) := nq_d dX11_rush_0_g (n := 2) rfl
theorem dX11_rush_5 : decode cX11_rush 5 = .ok (.ifCond .ne 7, 3) := nq_d dX11_rush_0_g (n := 3) rfl
theorem dX11_rush_8 : decode cX11_rush 8 = .ok (.sipush (-1001), 3) := nq_d dX11_rush_0_g (n := 4) rfl
theorem dX11_rush_11 : decode cX11_rush 11 = .ok (.ireturn, 1) := nq_d dX11_rush_0_g (n := 5) rfl
theorem dX11_rush_12 : decode cX11_rush 12 = .ok (.iload_n 2, 1) := nq_d dX11_rush_0_g (n := 6) rfl
theorem dX11_rush_13 : decode cX11_rush 13 = .ok (.i2l, 1) := nq_d dX11_rush_0_g (n := 7) rfl
theorem dX11_rush_14 : decode cX11_rush 14 = .ok (.lconst 1, 1) := nq_d dX11_rush_0_g (n := 8) rfl
theorem dX11_rush_15 : decode cX11_rush 15 = .ok (.ldc2_w 333, 3) := nq_d dX11_rush_0_g (n := 9) rfl
theorem dX11_rush_18 : decode cX11_rush 18 = .ok (.invokestatic 126, 3) := nq_d dX11_rush_0_g (n := 10) rfl
theorem dX11_rush_21 : decode cX11_rush 21 = .ok (.ifCond .eq 15, 3) := nq_d dX11_rush_0_g (n := 11) rfl
theorem dX11_rush_24 : decode cX11_rush 24 = .ok (.iload_n 3, 1) := nq_d dX11_rush_0_g (n := 12) rfl
theorem dX11_rush_25 : decode cX11_rush 25 = .ok (.i2l, 1) := nq_d dX11_rush_0_g (n := 13) rfl
theorem dX11_rush_26 : decode cX11_rush 26 = .ok (.lconst 0, 1) := nq_d dX11_rush_0_g (n := 14) rfl
theorem dX11_rush_27 : decode cX11_rush 27 = .ok (.ldc2_w 236, 3) := nq_d dX11_rush_0_g (n := 15) rfl
theorem dX11_rush_30 : decode cX11_rush 30 = .ok (.invokestatic 126, 3) := nq_d dX11_rush_0_g (n := 16) rfl
theorem dX11_rush_33 : decode cX11_rush 33 = .ok (.ifCond .ne 7, 3) := nq_d dX11_rush_0_g (n := 17) rfl
theorem dX11_rush_36 : decode cX11_rush 36 = .ok (.sipush (-1002), 3) := nq_d dX11_rush_0_g (n := 18) rfl
theorem dX11_rush_39 : decode cX11_rush 39 = .ok (.ireturn, 1) := nq_d dX11_rush_0_g (n := 19) rfl
theorem dX11_rush_40 : decode cX11_rush 40 = .ok (.aload_n 0, 1) := nq_d dX11_rush_0_g (n := 20) rfl
theorem dX11_rush_41 : decode cX11_rush 41 = .ok (.iload_n 1, 1) := nq_d dX11_rush_0_g (n := 21) rfl
theorem dX11_rush_42 : decode cX11_rush 42 = .ok (.invokevirtual 335, 3) := nq_d dX11_rush_0_g (n := 22) rfl
theorem dX11_rush_45 : decode cX11_rush 45 = .ok (.aload_n 0, 1) := nq_d dX11_rush_0_g (n := 23) rfl
theorem dX11_rush_46 : decode cX11_rush 46 = .ok (.iload_n 2, 1) := nq_d dX11_rush_0_g (n := 24) rfl
theorem dX11_rush_47 : decode cX11_rush 47 = .ok (.invokevirtual 338, 3) := nq_d dX11_rush_0_g (n := 25) rfl
theorem dX11_rush_50 : decode cX11_rush 50 = .ok (.iload_n 3, 1) := nq_d dX11_rush_0_g (n := 26) rfl
theorem dX11_rush_51 : decode cX11_rush 51 = .ok (.ifCond .ne 10, 3) := nq_d dX11_rush_0_g (n := 27) rfl
theorem dX11_rush_54 : decode cX11_rush 54 = .ok (.aload_n 0, 1) := nq_d dX11_rush_0_g (n := 28) rfl
theorem dX11_rush_55 : decode cX11_rush 55 = .ok (.getfield 315, 3) := nq_d dX11_rush_0_g (n := 29) rfl
theorem dX11_rush_58 : decode cX11_rush 58 = .ok (.goto 19, 3) := nq_d dX11_rush_0_g (n := 30) rfl
theorem dX11_rush_61 : decode cX11_rush 61 = .ok (.iload_n 3, 1) := nq_d dX11_rush_0_g (n := 31) rfl
theorem dX11_rush_62 : decode cX11_rush 62 = .ok (.iconst 1, 1) := nq_d dX11_rush_0_g (n := 32) rfl
theorem dX11_rush_63 : decode cX11_rush 63 = .ok (.if_icmp .ne 10, 3) := nq_d dX11_rush_0_g (n := 33) rfl
theorem dX11_rush_66 : decode cX11_rush 66 = .ok (.aload_n 0, 1) := nq_d dX11_rush_0_g (n := 34) rfl
theorem dX11_rush_67 : decode cX11_rush 67 = .ok (.getfield 318, 3) := nq_d dX11_rush_0_g (n := 35) rfl
theorem dX11_rush_70 : decode cX11_rush 70 = .ok (.goto 7, 3) := nq_d dX11_rush_0_g (n := 36) rfl
theorem dX11_rush_73 : decode cX11_rush 73 = .ok (.aload_n 0, 1) := nq_d dX11_rush_0_g (n := 37) rfl
theorem dX11_rush_74 : decode cX11_rush 74 = .ok (.getfield 321, 3) := nq_d dX11_rush_0_g (n := 38) rfl
theorem dX11_rush_77 : decode cX11_rush 77 = .ok (.ireturn, 1) := nq_d dX11_rush_0_g (n := 39) rfl
noncomputable def dX11_nextRow_0_l : List (Nat × Instr × Nat) := [(0, .aload_n 0, 1), (1, .getfield 324, 3), (4, .iconst 2, 1), (5, .isub, 1), (6, .istore_n 1, 1), (7, .iload_n 1, 1), (8, .ifCond .lt 26, 3), (11, .aload_n 0, 1), (12, .getfield 90, 3), (15, .iload_n 1, 1), (16, .iaload, 1), (17, .aload_n 0, 1), (18, .getfield 90, 3), (21, .iload_n 1, 1), (22, .iconst 1, 1), (23, .iadd, 1), (24, .iaload, 1), (25, .if_icmp .le 9, 3), (28, .iinc 1 (-1), 3), (31, .goto (-24), 3), (34, .iload_n 1, 1), (35, .ifCond .ge 5, 3), (38, .iconst 0, 1), (39, .ireturn, 1), (40, .aload_n 0, 1), (41, .getfield 324, 3), (44, .iconst 1, 1), (45, .isub, 1), (46, .istore_n 2, 1), (47, .aload_n 0, 1), (48, .getfield 90, 3), (51, .iload_n 2, 1), (52, .iaload, 1), (53, .aload_n 0, 1), (54, .getfield 90, 3), (57, .iload_n 1, 1), (58, .iaload, 1), (59, .if_icmp .ge 9, 3), (62, .iinc 2 (-1), 3), (65, .goto (-18), 3)]
set_option maxRecDepth 100000 in
theorem dX11_nextRow_0_g : dX11_nextRow_0_l.all (fun x => decide (decode cX11_nextRow x.1 = .ok x.2)) = true := by decide +kernel
theorem dX11_nextRow_0 : decode cX11_nextRow 0 = .ok (.aload_n 0, 1) := nq_d dX11_nextRow_0_g (n := 0) rfl
theorem dX11_nextRow_1 : decode cX11_nextRow 1 = .ok (.getfield 324, 3) := nq_d dX11_nextRow_0_g (n := 1) rfl
theorem dX11_nextRow_4 : decode cX11_nextRow 4 = .ok (.iconst 2, 1) := nq_d dX11_nextRow_0_g (n := 2) rfl
theorem dX11_nextRow_5 : decode cX11_nextRow 5 = .ok (.isub, 1) := nq_d dX11_nextRow_0_g (n := 3) rfl
theorem dX11_nextRow_6 : decode cX11_nextRow 6 = .ok (.istore_n 1, 1) := nq_d dX11_nextRow_0_g (n := 4) rfl
theorem dX11_nextRow_7 : decode cX11_nextRow 7 = .ok (.iload_n 1, 1) := nq_d dX11_nextRow_0_g (n := 5) rfl
theorem dX11_nextRow_8 : decode cX11_nextRow 8 = .ok (.ifCond .lt 26, 3) := nq_d dX11_nextRow_0_g (n := 6) rfl
theorem dX11_nextRow_11 : decode cX11_nextRow 11 = .ok (.aload_n 0, 1) := nq_d dX11_nextRow_0_g (n := 7) rfl
theorem dX11_nextRow_12 : decode cX11_nextRow 12 = .ok (.getfield 90, 3) := nq_d dX11_nextRow_0_g (n := 8) rfl
theorem dX11_nextRow_15 : decode cX11_nextRow 15 = .ok (.iload_n 1, 1) := nq_d dX11_nextRow_0_g (n := 9) rfl
theorem dX11_nextRow_16 : decode cX11_nextRow 16 = .ok (.iaload, 1) := nq_d dX11_nextRow_0_g (n := 10) rfl
theorem dX11_nextRow_17 : decode cX11_nextRow 17 = .ok (.aload_n 0, 1) := nq_d dX11_nextRow_0_g (n := 11) rfl
theorem dX11_nextRow_18 : decode cX11_nextRow 18 = .ok (.getfield 90, 3) := nq_d dX11_nextRow_0_g (n := 12) rfl
theorem dX11_nextRow_21 : decode cX11_nextRow 21 = .ok (.iload_n 1, 1) := nq_d dX11_nextRow_0_g (n := 13) rfl
theorem dX11_nextRow_22 : decode cX11_nextRow 22 = .ok (.iconst 1, 1) := nq_d dX11_nextRow_0_g (n := 14) rfl
theorem dX11_nextRow_23 : decode cX11_nextRow 23 = .ok (.iadd, 1) := nq_d dX11_nextRow_0_g (n := 15) rfl
theorem dX11_nextRow_24 : decode cX11_nextRow 24 = .ok (.iaload, 1) := nq_d dX11_nextRow_0_g (n := 16) rfl
theorem dX11_nextRow_25 : decode cX11_nextRow 25 = .ok (.if_icmp .le 9, 3) := nq_d dX11_nextRow_0_g (n := 17) rfl
theorem dX11_nextRow_28 : decode cX11_nextRow 28 = .ok (.iinc 1 (-1), 3) := nq_d dX11_nextRow_0_g (n := 18) rfl
theorem dX11_nextRow_31 : decode cX11_nextRow 31 = .ok (.goto (-24), 3) := nq_d dX11_nextRow_0_g (n := 19) rfl
theorem dX11_nextRow_34 : decode cX11_nextRow 34 = .ok (.iload_n 1, 1) := nq_d dX11_nextRow_0_g (n := 20) rfl
theorem dX11_nextRow_35 : decode cX11_nextRow 35 = .ok (.ifCond .ge 5, 3) := nq_d dX11_nextRow_0_g (n := 21) rfl
theorem dX11_nextRow_38 : decode cX11_nextRow 38 = .ok (.iconst 0, 1) := nq_d dX11_nextRow_0_g (n := 22) rfl
theorem dX11_nextRow_39 : decode cX11_nextRow 39 = .ok (.ireturn, 1) := nq_d dX11_nextRow_0_g (n := 23) rfl
theorem dX11_nextRow_40 : decode cX11_nextRow 40 = .ok (.aload_n 0, 1) := nq_d dX11_nextRow_0_g (n := 24) rfl
theorem dX11_nextRow_41 : decode cX11_nextRow 41 = .ok (.getfield 324, 3) := nq_d dX11_nextRow_0_g (n := 25) rfl
theorem dX11_nextRow_44 : decode cX11_nextRow 44 = .ok (.iconst 1, 1) := nq_d dX11_nextRow_0_g (n := 26) rfl
theorem dX11_nextRow_45 : decode cX11_nextRow 45 = .ok (.isub, 1) := nq_d dX11_nextRow_0_g (n := 27) rfl
theorem dX11_nextRow_46 : decode cX11_nextRow 46 = .ok (.istore_n 2, 1) := nq_d dX11_nextRow_0_g (n := 28) rfl
theorem dX11_nextRow_47 : decode cX11_nextRow 47 = .ok (.aload_n 0, 1) := nq_d dX11_nextRow_0_g (n := 29) rfl
theorem dX11_nextRow_48 : decode cX11_nextRow 48 = .ok (.getfield 90, 3) := nq_d dX11_nextRow_0_g (n := 30) rfl
theorem dX11_nextRow_51 : decode cX11_nextRow 51 = .ok (.iload_n 2, 1) := nq_d dX11_nextRow_0_g (n := 31) rfl
theorem dX11_nextRow_52 : decode cX11_nextRow 52 = .ok (.iaload, 1) := nq_d dX11_nextRow_0_g (n := 32) rfl
theorem dX11_nextRow_53 : decode cX11_nextRow 53 = .ok (.aload_n 0, 1) := nq_d dX11_nextRow_0_g (n := 33) rfl
theorem dX11_nextRow_54 : decode cX11_nextRow 54 = .ok (.getfield 90, 3) := nq_d dX11_nextRow_0_g (n := 34) rfl
theorem dX11_nextRow_57 : decode cX11_nextRow 57 = .ok (.iload_n 1, 1) := nq_d dX11_nextRow_0_g (n := 35) rfl
theorem dX11_nextRow_58 : decode cX11_nextRow 58 = .ok (.iaload, 1) := nq_d dX11_nextRow_0_g (n := 36) rfl
theorem dX11_nextRow_59 : decode cX11_nextRow 59 = .ok (.if_icmp .ge 9, 3) := nq_d dX11_nextRow_0_g (n := 37) rfl
theorem dX11_nextRow_62 : decode cX11_nextRow 62 = .ok (.iinc 2 (-1), 3) := nq_d dX11_nextRow_0_g (n := 38) rfl
theorem dX11_nextRow_65 : decode cX11_nextRow 65 = .ok (.goto (-18), 3) := nq_d dX11_nextRow_0_g (n := 39) rfl
noncomputable def dX11_nextRow_68_l : List (Nat × Instr × Nat) := [(68, .aload_n 0, 1), (69, .getfield 90, 3), (72, .iload_n 1, 1), (73, .iaload, 1), (74, .istore_n 3, 1), (75, .aload_n 0, 1), (76, .getfield 90, 3), (79, .iload_n 1, 1), (80, .aload_n 0, 1), (81, .getfield 90, 3), (84, .iload_n 2, 1), (85, .iaload, 1), (86, .iastore, 1), (87, .aload_n 0, 1), (88, .getfield 90, 3), (91, .iload_n 2, 1), (92, .iload_n 3, 1), (93, .iastore, 1), (94, .iload_n 1, 1), (95, .iconst 1, 1), (96, .iadd, 1), (97, .istore 4, 2), (99, .aload_n 0, 1), (100, .getfield 324, 3), (103, .iconst 1, 1), (104, .isub, 1), (105, .istore 5, 2), (107, .iload 4, 2), (109, .iload 5, 2), (111, .if_icmp .ge 44, 3), (114, .aload_n 0, 1), (115, .getfield 90, 3), (118, .iload 4, 2), (120, .iaload, 1), (121, .istore 6, 2), (123, .aload_n 0, 1), (124, .getfield 90, 3), (127, .iload 4, 2), (129, .aload_n 0, 1), (130, .getfield 90, 3)]
set_option maxRecDepth 100000 in
theorem dX11_nextRow_68_g : dX11_nextRow_68_l.all (fun x => decide (decode cX11_nextRow x.1 = .ok x.2)) = true := by decide +kernel
theorem dX11_nextRow_68 : decode cX11_nextRow 68 = .ok (.aload_n 0, 1) := nq_d dX11_nextRow_68_g (n := 0) rfl
theorem dX11_nextRow_69 : decode cX11_nextRow 69 = .ok (.getfield 90, 3) := nq_d dX11_nextRow_68_g (n := 1) rfl
theorem dX11_nextRow_72 : decode cX11_nextRow 72 = .ok (.iload_n 1, 1) := nq_d dX11_nextRow_68_g (n := 2) rfl
theorem dX11_nextRow_73 : decode cX11_nextRow 73 = .ok (.iaload, 1) := nq_d dX11_nextRow_68_g (n := 3) rfl
theorem dX11_nextRow_74 : decode cX11_nextRow 74 = .ok (.istore_n 3, 1) := nq_d dX11_nextRow_68_g (n := 4) rfl
theorem dX11_nextRow_75 : decode cX11_nextRow 75 = .ok (.aload_n 0, 1) := nq_d dX11_nextRow_68_g (n := 5) rfl
theorem dX11_nextRow_76 : decode cX11_nextRow 76 = .ok (.getfield 90, 3) := nq_d dX11_nextRow_68_g (n := 6) rfl
theorem dX11_nextRow_79 : decode cX11_nextRow 79 = .ok (.iload_n 1, 1) := nq_d dX11_nextRow_68_g (n := 7) rfl
theorem dX11_nextRow_80 : decode cX11_nextRow 80 = .ok (.aload_n 0, 1) := nq_d dX11_nextRow_68_g (n := 8) rfl
theorem dX11_nextRow_81 : decode cX11_nextRow 81 = .ok (.getfield 90, 3) := nq_d dX11_nextRow_68_g (n := 9) rfl
theorem dX11_nextRow_84 : decode cX11_nextRow 84 = .ok (.iload_n 2, 1) := nq_d dX11_nextRow_68_g (n := 10) rfl
theorem dX11_nextRow_85 : decode cX11_nextRow 85 = .ok (.iaload, 1) := nq_d dX11_nextRow_68_g (n := 11) rfl
theorem dX11_nextRow_86 : decode cX11_nextRow 86 = .ok (.iastore, 1) := nq_d dX11_nextRow_68_g (n := 12) rfl
theorem dX11_nextRow_87 : decode cX11_nextRow 87 = .ok (.aload_n 0, 1) := nq_d dX11_nextRow_68_g (n := 13) rfl
theorem dX11_nextRow_88 : decode cX11_nextRow 88 = .ok (.getfield 90, 3) := nq_d dX11_nextRow_68_g (n := 14) rfl
theorem dX11_nextRow_91 : decode cX11_nextRow 91 = .ok (.iload_n 2, 1) := nq_d dX11_nextRow_68_g (n := 15) rfl
theorem dX11_nextRow_92 : decode cX11_nextRow 92 = .ok (.iload_n 3, 1) := nq_d dX11_nextRow_68_g (n := 16) rfl
theorem dX11_nextRow_93 : decode cX11_nextRow 93 = .ok (.iastore, 1) := nq_d dX11_nextRow_68_g (n := 17) rfl
theorem dX11_nextRow_94 : decode cX11_nextRow 94 = .ok (.iload_n 1, 1) := nq_d dX11_nextRow_68_g (n := 18) rfl
theorem dX11_nextRow_95 : decode cX11_nextRow 95 = .ok (.iconst 1, 1) := nq_d dX11_nextRow_68_g (n := 19) rfl
theorem dX11_nextRow_96 : decode cX11_nextRow 96 = .ok (.iadd, 1) := nq_d dX11_nextRow_68_g (n := 20) rfl
theorem dX11_nextRow_97 : decode cX11_nextRow 97 = .ok (.istore 4, 2) := nq_d dX11_nextRow_68_g (n := 21) rfl
theorem dX11_nextRow_99 : decode cX11_nextRow 99 = .ok (.aload_n 0, 1) := nq_d dX11_nextRow_68_g (n := 22) rfl
theorem dX11_nextRow_100 : decode cX11_nextRow 100 = .ok (.getfield 324, 3) := nq_d dX11_nextRow_68_g (n := 23) rfl
theorem dX11_nextRow_103 : decode cX11_nextRow 103 = .ok (.iconst 1, 1) := nq_d dX11_nextRow_68_g (n := 24) rfl
theorem dX11_nextRow_104 : decode cX11_nextRow 104 = .ok (.isub, 1) := nq_d dX11_nextRow_68_g (n := 25) rfl
theorem dX11_nextRow_105 : decode cX11_nextRow 105 = .ok (.istore 5, 2) := nq_d dX11_nextRow_68_g (n := 26) rfl
theorem dX11_nextRow_107 : decode cX11_nextRow 107 = .ok (.iload 4, 2) := nq_d dX11_nextRow_68_g (n := 27) rfl
theorem dX11_nextRow_109 : decode cX11_nextRow 109 = .ok (.iload 5, 2) := nq_d dX11_nextRow_68_g (n := 28) rfl
theorem dX11_nextRow_111 : decode cX11_nextRow 111 = .ok (.if_icmp .ge 44, 3) := nq_d dX11_nextRow_68_g (n := 29) rfl
theorem dX11_nextRow_114 : decode cX11_nextRow 114 = .ok (.aload_n 0, 1) := nq_d dX11_nextRow_68_g (n := 30) rfl
theorem dX11_nextRow_115 : decode cX11_nextRow 115 = .ok (.getfield 90, 3) := nq_d dX11_nextRow_68_g (n := 31) rfl
theorem dX11_nextRow_118 : decode cX11_nextRow 118 = .ok (.iload 4, 2) := nq_d dX11_nextRow_68_g (n := 32) rfl
theorem dX11_nextRow_120 : decode cX11_nextRow 120 = .ok (.iaload, 1) := nq_d dX11_nextRow_68_g (n := 33) rfl
theorem dX11_nextRow_121 : decode cX11_nextRow 121 = .ok (.istore 6, 2) := nq_d dX11_nextRow_68_g (n := 34) rfl
theorem dX11_nextRow_123 : decode cX11_nextRow 123 = .ok (.aload_n 0, 1) := nq_d dX11_nextRow_68_g (n := 35) rfl
theorem dX11_nextRow_124 : decode cX11_nextRow 124 = .ok (.getfield 90, 3) := nq_d dX11_nextRow_68_g (n := 36) rfl
theorem dX11_nextRow_127 : decode cX11_nextRow 127 = .ok (.iload 4, 2) := nq_d dX11_nextRow_68_g (n := 37) rfl
theorem dX11_nextRow_129 : decode cX11_nextRow 129 = .ok (.aload_n 0, 1) := nq_d dX11_nextRow_68_g (n := 38) rfl
theorem dX11_nextRow_130 : decode cX11_nextRow 130 = .ok (.getfield 90, 3) := nq_d dX11_nextRow_68_g (n := 39) rfl
noncomputable def dX11_nextRow_133_l : List (Nat × Instr × Nat) := [(133, .iload 5, 2), (135, .iaload, 1), (136, .iastore, 1), (137, .aload_n 0, 1), (138, .getfield 90, 3), (141, .iload 5, 2), (143, .iload 6, 2), (145, .iastore, 1), (146, .iinc 4 1, 3), (149, .iinc 5 (-1), 3), (152, .goto (-45), 3), (155, .iconst 1, 1), (156, .ireturn, 1)]
set_option maxRecDepth 100000 in
theorem dX11_nextRow_133_g : dX11_nextRow_133_l.all (fun x => decide (decode cX11_nextRow x.1 = .ok x.2)) = true := by decide +kernel
theorem dX11_nextRow_133 : decode cX11_nextRow 133 = .ok (.iload 5, 2) := nq_d dX11_nextRow_133_g (n := 0) rfl
theorem dX11_nextRow_135 : decode cX11_nextRow 135 = .ok (.iaload, 1) := nq_d dX11_nextRow_133_g (n := 1) rfl
theorem dX11_nextRow_136 : decode cX11_nextRow 136 = .ok (.iastore, 1) := nq_d dX11_nextRow_133_g (n := 2) rfl
theorem dX11_nextRow_137 : decode cX11_nextRow 137 = .ok (.aload_n 0, 1) := nq_d dX11_nextRow_133_g (n := 3) rfl
theorem dX11_nextRow_138 : decode cX11_nextRow 138 = .ok (.getfield 90, 3) := nq_d dX11_nextRow_133_g (n := 4) rfl
theorem dX11_nextRow_141 : decode cX11_nextRow 141 = .ok (.iload 5, 2) := nq_d dX11_nextRow_133_g (n := 5) rfl
theorem dX11_nextRow_143 : decode cX11_nextRow 143 = .ok (.iload 6, 2) := nq_d dX11_nextRow_133_g (n := 6) rfl
theorem dX11_nextRow_145 : decode cX11_nextRow 145 = .ok (.iastore, 1) := nq_d dX11_nextRow_133_g (n := 7) rfl
theorem dX11_nextRow_146 : decode cX11_nextRow 146 = .ok (.iinc 4 1, 3) := nq_d dX11_nextRow_133_g (n := 8) rfl
theorem dX11_nextRow_149 : decode cX11_nextRow 149 = .ok (.iinc 5 (-1), 3) := nq_d dX11_nextRow_133_g (n := 9) rfl
theorem dX11_nextRow_152 : decode cX11_nextRow 152 = .ok (.goto (-45), 3) := nq_d dX11_nextRow_133_g (n := 10) rfl
theorem dX11_nextRow_155 : decode cX11_nextRow 155 = .ok (.iconst 1, 1) := nq_d dX11_nextRow_133_g (n := 11) rfl
theorem dX11_nextRow_156 : decode cX11_nextRow 156 = .ok (.ireturn, 1) := nq_d dX11_nextRow_133_g (n := 12) rfl
set_option maxRecDepth 100000 in
theorem ggX11_bestRow_X11_areHanging : GoodIn wsX11_bestRow wsX11_areHanging := goodIn_sub (sub_c (nq_m (n := 11) rfl) (sub_c (nq_m (n := 12) rfl) (sub_c (nq_m (n := 13) rfl) (sub_c (nq_m (n := 14) rfl) (sub_c (nq_m (n := 15) rfl) (sub_c (nq_m (n := 10) rfl) (sub_c (nq_m (n := 16) rfl) (sub_c (nq_m (n := 17) rfl) (sub_c (nq_m (n := 18) rfl) (sub_c (nq_m (n := 19) rfl) (sub_c (nq_m (n := 20) rfl) (sub_c (nq_m (n := 21) rfl) (sub_c (nq_m (n := 22) rfl) (sub_c (nq_m (n := 23) rfl) (sub_c (nq_m (n := 24) rfl) (sub_c (nq_m (n := 25) rfl) (sub_c (nq_m (n := 46) rfl) (sub_c (nq_m (n := 47) rfl) (sub_c (nq_m (n := 48) rfl) (sub_c (nq_m (n := 49) rfl) (sub_c (nq_m (n := 50) rfl) (sub_c (nq_m (n := 51) rfl) (sub_c (nq_m (n := 52) rfl) (sub_c (nq_m (n := 53) rfl) (sub_c (nq_m (n := 54) rfl) (sub_c (nq_m (n := 55) rfl) (sub_c (nq_m (n := 56) rfl) (sub_c (nq_m (n := 57) rfl) (sub_c (nq_m (n := 58) rfl) (sub_c (nq_m (n := 59) rfl) (sub_c (nq_m (n := 60) rfl) (sub_c (nq_m (n := 61) rfl) (sub_c (nq_m (n := 62) rfl) (sub_c (nq_m (n := 63) rfl) (sub_c (nq_m (n := 64) rfl) (sub_c (nq_m (n := 65) rfl) (sub_c (nq_m (n := 66) rfl) (sub_c (nq_m (n := 67) rfl) (sub_c (nq_m (n := 68) rfl) (sub_c (nq_m (n := 69) rfl) (sub_c (nq_m (n := 70) rfl) (sub_c (nq_m (n := 71) rfl) (sub_c (nq_m (n := 72) rfl) (sub_c (nq_m (n := 73) rfl) (sub_c (nq_m (n := 74) rfl) (sub_c (nq_m (n := 75) rfl) (sub_c (nq_m (n := 76) rfl) (sub_c (nq_m (n := 77) rfl) (sub_c (nq_m (n := 78) rfl) (sub_c (nq_m (n := 79) rfl) (sub_c (nq_m (n := 80) rfl) (sub_c (nq_m (n := 81) rfl) (sub_c (nq_m (n := 82) rfl) (sub_c (nq_m (n := 83) rfl) (sub_c (nq_m (n := 84) rfl) (sub_c (nq_m (n := 85) rfl) (sub_c (nq_m (n := 86) rfl) (sub_c (nq_m (n := 87) rfl) (sub_c (nq_m (n := 88) rfl) (sub_c (nq_m (n := 89) rfl) (sub_c (nq_m (n := 90) rfl) (sub_c (nq_m (n := 91) rfl) (sub_c (nq_m (n := 92) rfl) (sub_c (nq_m (n := 93) rfl) (sub_c (nq_m (n := 94) rfl) (sub_c (nq_m (n := 95) rfl) (sub_c (nq_m (n := 96) rfl) (sub_c (nq_m (n := 97) rfl) (sub_c (nq_m (n := 98) rfl) (sub_c (nq_m (n := 99) rfl) (sub_c (nq_m (n := 100) rfl) (sub_c (nq_m (n := 101) rfl) (sub_c (nq_m (n := 102) rfl) (sub_c (nq_m (n := 103) rfl) sub_n)))))))))))))))))))))))))))))))))))))))))))))))))))))))))))))))))))))))))) (by decide +kernel)
set_option maxRecDepth 100000 in
theorem gX11_bestRow_X11_areHanging : GoodIn wsX11_bestRow (wsV RX11 330 RX11 yX11_areHanging wsX11_areHanging) := goodIn_app (goodIn_sub (sub_c (nq_m (n := 7) rfl) (sub_c (nq_m (n := 8) rfl) (sub_c (nq_m (n := 9) rfl) (sub_c (nq_m (n := 10) rfl) sub_n)))) (by decide +kernel)) ggX11_bestRow_X11_areHanging
set_option maxRecDepth 100000 in
theorem ggX11_bestRow_X11_in : GoodIn wsX11_bestRow wsX11_in := goodIn_sub (sub_c (nq_m (n := 19) rfl) sub_n) (by decide +kernel)
set_option maxRecDepth 100000 in
theorem gX11_bestRow_X11_in : GoodIn wsX11_bestRow (va_wsS RX11 126 yX11_in wsX11_in) := goodIn_app (goodIn_sub (sub_c (nq_m (n := 17) rfl) (sub_c (nq_m (n := 18) rfl) (sub_c (nq_m (n := 10) rfl) sub_n))) (by decide +kernel)) ggX11_bestRow_X11_in
set_option maxRecDepth 100000 in
theorem ggX11_bestRow_X11_bits : GoodIn wsX11_bestRow wsX11_bits := goodIn_sub (sub_c (nq_m (n := 28) rfl) sub_n) (by decide +kernel)
set_option maxRecDepth 100000 in
theorem gX11_bestRow_X11_bits : GoodIn wsX11_bestRow (va_wsS RX11 341 yX11_bits wsX11_bits) := goodIn_app (goodIn_sub (sub_c (nq_m (n := 26) rfl) (sub_c (nq_m (n := 27) rfl) (sub_c (nq_m (n := 10) rfl) sub_n))) (by decide +kernel)) ggX11_bestRow_X11_bits
set_option maxRecDepth 100000 in
theorem ggX11_bestRow_X11_fillRow : GoodIn wsX11_bestRow wsX11_fillRow := goodIn_sub (sub_c (nq_m (n := 32) rfl) (sub_c (nq_m (n := 4) rfl) (sub_c (nq_m (n := 12) rfl) (sub_c (nq_m (n := 6) rfl) (sub_c (nq_m (n := 46) rfl) (sub_c (nq_m (n := 47) rfl) (sub_c (nq_m (n := 48) rfl) (sub_c (nq_m (n := 49) rfl) (sub_c (nq_m (n := 50) rfl) (sub_c (nq_m (n := 51) rfl) (sub_c (nq_m (n := 52) rfl) (sub_c (nq_m (n := 53) rfl) (sub_c (nq_m (n := 54) rfl) (sub_c (nq_m (n := 55) rfl) (sub_c (nq_m (n := 56) rfl) (sub_c (nq_m (n := 57) rfl) (sub_c (nq_m (n := 58) rfl) (sub_c (nq_m (n := 59) rfl) (sub_c (nq_m (n := 60) rfl) (sub_c (nq_m (n := 61) rfl) (sub_c (nq_m (n := 62) rfl) (sub_c (nq_m (n := 63) rfl) (sub_c (nq_m (n := 64) rfl) (sub_c (nq_m (n := 65) rfl) (sub_c (nq_m (n := 66) rfl) (sub_c (nq_m (n := 67) rfl) (sub_c (nq_m (n := 68) rfl) (sub_c (nq_m (n := 69) rfl) (sub_c (nq_m (n := 70) rfl) (sub_c (nq_m (n := 71) rfl) (sub_c (nq_m (n := 72) rfl) (sub_c (nq_m (n := 73) rfl) (sub_c (nq_m (n := 74) rfl) (sub_c (nq_m (n := 75) rfl) (sub_c (nq_m (n := 76) rfl) (sub_c (nq_m (n := 77) rfl) (sub_c (nq_m (n := 78) rfl) (sub_c (nq_m (n := 79) rfl) (sub_c (nq_m (n := 80) rfl) (sub_c (nq_m (n := 81) rfl) (sub_c (nq_m (n := 82) rfl) (sub_c (nq_m (n := 83) rfl) (sub_c (nq_m (n := 84) rfl) (sub_c (nq_m (n := 85) rfl) (sub_c (nq_m (n := 86) rfl) (sub_c (nq_m (n := 87) rfl) (sub_c (nq_m (n := 88) rfl) (sub_c (nq_m (n := 89) rfl) (sub_c (nq_m (n := 90) rfl) (sub_c (nq_m (n := 91) rfl) (sub_c (nq_m (n := 92) rfl) (sub_c (nq_m (n := 93) rfl) (sub_c (nq_m (n := 94) rfl) (sub_c (nq_m (n := 95) rfl) (sub_c (nq_m (n := 96) rfl) (sub_c (nq_m (n := 97) rfl) (sub_c (nq_m (n := 98) rfl) (sub_c (nq_m (n := 99) rfl) (sub_c (nq_m (n := 100) rfl) (sub_c (nq_m (n := 101) rfl) (sub_c (nq_m (n := 102) rfl) (sub_c (nq_m (n := 103) rfl) sub_n)))))))))))))))))))))))))))))))))))))))))))))))))))))))))))))) (by decide +kernel)
set_option maxRecDepth 100000 in
theorem gX11_bestRow_X11_fillRow : GoodIn wsX11_bestRow (wsV RX11 335 RX11 yX11_fillRow wsX11_fillRow) := goodIn_app (goodIn_sub (sub_c (nq_m (n := 29) rfl) (sub_c (nq_m (n := 30) rfl) (sub_c (nq_m (n := 31) rfl) (sub_c (nq_m (n := 10) rfl) sub_n)))) (by decide +kernel)) ggX11_bestRow_X11_fillRow
set_option maxRecDepth 100000 in
theorem ggX11_bestRow_X11_runRow : GoodIn wsX11_bestRow wsX11_runRow := goodIn_sub (sub_c (nq_m (n := 36) rfl) (sub_c (nq_m (n := 3) rfl) (sub_c (nq_m (n := 37) rfl) (sub_c (nq_m (n := 2) rfl) (sub_c (nq_m (n := 38) rfl) (sub_c (nq_m (n := 4) rfl) (sub_c (nq_m (n := 6) rfl) (sub_c (nq_m (n := 39) rfl) (sub_c (nq_m (n := 40) rfl) (sub_c (nq_m (n := 41) rfl) (sub_c (nq_m (n := 20) rfl) (sub_c (nq_m (n := 21) rfl) (sub_c (nq_m (n := 22) rfl) (sub_c (nq_m (n := 10) rfl) (sub_c (nq_m (n := 23) rfl) (sub_c (nq_m (n := 24) rfl) (sub_c (nq_m (n := 25) rfl) (sub_c (nq_m (n := 46) rfl) (sub_c (nq_m (n := 47) rfl) (sub_c (nq_m (n := 48) rfl) (sub_c (nq_m (n := 49) rfl) (sub_c (nq_m (n := 50) rfl) (sub_c (nq_m (n := 51) rfl) (sub_c (nq_m (n := 52) rfl) (sub_c (nq_m (n := 53) rfl) (sub_c (nq_m (n := 54) rfl) (sub_c (nq_m (n := 55) rfl) (sub_c (nq_m (n := 56) rfl) (sub_c (nq_m (n := 57) rfl) (sub_c (nq_m (n := 58) rfl) (sub_c (nq_m (n := 59) rfl) (sub_c (nq_m (n := 60) rfl) (sub_c (nq_m (n := 61) rfl) (sub_c (nq_m (n := 62) rfl) (sub_c (nq_m (n := 63) rfl) (sub_c (nq_m (n := 64) rfl) (sub_c (nq_m (n := 65) rfl) (sub_c (nq_m (n := 66) rfl) (sub_c (nq_m (n := 67) rfl) (sub_c (nq_m (n := 68) rfl) (sub_c (nq_m (n := 69) rfl) (sub_c (nq_m (n := 70) rfl) (sub_c (nq_m (n := 71) rfl) (sub_c (nq_m (n := 72) rfl) (sub_c (nq_m (n := 73) rfl) (sub_c (nq_m (n := 74) rfl) (sub_c (nq_m (n := 75) rfl) (sub_c (nq_m (n := 76) rfl) (sub_c (nq_m (n := 77) rfl) (sub_c (nq_m (n := 78) rfl) (sub_c (nq_m (n := 79) rfl) (sub_c (nq_m (n := 80) rfl) (sub_c (nq_m (n := 81) rfl) (sub_c (nq_m (n := 82) rfl) (sub_c (nq_m (n := 83) rfl) (sub_c (nq_m (n := 84) rfl) (sub_c (nq_m (n := 85) rfl) (sub_c (nq_m (n := 86) rfl) (sub_c (nq_m (n := 87) rfl) (sub_c (nq_m (n := 88) rfl) (sub_c (nq_m (n := 89) rfl) (sub_c (nq_m (n := 90) rfl) (sub_c (nq_m (n := 91) rfl) (sub_c (nq_m (n := 92) rfl) (sub_c (nq_m (n := 93) rfl) (sub_c (nq_m (n := 94) rfl) (sub_c (nq_m (n := 95) rfl) (sub_c (nq_m (n := 96) rfl) (sub_c (nq_m (n := 97) rfl) (sub_c (nq_m (n := 98) rfl) (sub_c (nq_m (n := 99) rfl) (sub_c (nq_m (n := 100) rfl) (sub_c (nq_m (n := 101) rfl) (sub_c (nq_m (n := 102) rfl) (sub_c (nq_m (n := 103) rfl) sub_n))))))))))))))))))))))))))))))))))))))))))))))))))))))))))))))))))))))))))) (by decide +kernel)
set_option maxRecDepth 100000 in
theorem gX11_bestRow_X11_runRow : GoodIn wsX11_bestRow (wsV RX11 338 RX11 yX11_runRow wsX11_runRow) := goodIn_app (goodIn_sub (sub_c (nq_m (n := 33) rfl) (sub_c (nq_m (n := 34) rfl) (sub_c (nq_m (n := 35) rfl) (sub_c (nq_m (n := 10) rfl) sub_n)))) (by decide +kernel)) ggX11_bestRow_X11_runRow
set_option maxRecDepth 100000 in
theorem ggX11_bestRow_X11_nextRow : GoodIn wsX11_bestRow wsX11_nextRow := goodIn_sub (sub_c (nq_m (n := 45) rfl) (sub_c (nq_m (n := 4) rfl) (sub_c (nq_m (n := 6) rfl) (sub_c (nq_m (n := 46) rfl) (sub_c (nq_m (n := 47) rfl) (sub_c (nq_m (n := 48) rfl) (sub_c (nq_m (n := 49) rfl) (sub_c (nq_m (n := 50) rfl) (sub_c (nq_m (n := 51) rfl) (sub_c (nq_m (n := 52) rfl) (sub_c (nq_m (n := 53) rfl) (sub_c (nq_m (n := 54) rfl) (sub_c (nq_m (n := 55) rfl) (sub_c (nq_m (n := 56) rfl) (sub_c (nq_m (n := 57) rfl) (sub_c (nq_m (n := 58) rfl) (sub_c (nq_m (n := 59) rfl) (sub_c (nq_m (n := 60) rfl) (sub_c (nq_m (n := 61) rfl) (sub_c (nq_m (n := 62) rfl) (sub_c (nq_m (n := 63) rfl) (sub_c (nq_m (n := 64) rfl) (sub_c (nq_m (n := 65) rfl) (sub_c (nq_m (n := 66) rfl) (sub_c (nq_m (n := 67) rfl) (sub_c (nq_m (n := 68) rfl) (sub_c (nq_m (n := 69) rfl) (sub_c (nq_m (n := 70) rfl) (sub_c (nq_m (n := 71) rfl) (sub_c (nq_m (n := 72) rfl) (sub_c (nq_m (n := 73) rfl) (sub_c (nq_m (n := 74) rfl) (sub_c (nq_m (n := 75) rfl) (sub_c (nq_m (n := 76) rfl) (sub_c (nq_m (n := 77) rfl) (sub_c (nq_m (n := 78) rfl) (sub_c (nq_m (n := 79) rfl) (sub_c (nq_m (n := 80) rfl) (sub_c (nq_m (n := 81) rfl) (sub_c (nq_m (n := 82) rfl) (sub_c (nq_m (n := 83) rfl) (sub_c (nq_m (n := 84) rfl) (sub_c (nq_m (n := 85) rfl) (sub_c (nq_m (n := 86) rfl) (sub_c (nq_m (n := 87) rfl) (sub_c (nq_m (n := 88) rfl) (sub_c (nq_m (n := 89) rfl) (sub_c (nq_m (n := 90) rfl) (sub_c (nq_m (n := 91) rfl) (sub_c (nq_m (n := 92) rfl) (sub_c (nq_m (n := 93) rfl) (sub_c (nq_m (n := 94) rfl) (sub_c (nq_m (n := 95) rfl) (sub_c (nq_m (n := 96) rfl) (sub_c (nq_m (n := 97) rfl) (sub_c (nq_m (n := 98) rfl) (sub_c (nq_m (n := 99) rfl) (sub_c (nq_m (n := 100) rfl) (sub_c (nq_m (n := 101) rfl) (sub_c (nq_m (n := 102) rfl) (sub_c (nq_m (n := 103) rfl) sub_n))))))))))))))))))))))))))))))))))))))))))))))))))))))))))))) (by decide +kernel)
set_option maxRecDepth 100000 in
theorem gX11_bestRow_X11_nextRow : GoodIn wsX11_bestRow (wsV RX11 344 RX11 yX11_nextRow wsX11_nextRow) := goodIn_app (goodIn_sub (sub_c (nq_m (n := 42) rfl) (sub_c (nq_m (n := 43) rfl) (sub_c (nq_m (n := 44) rfl) (sub_c (nq_m (n := 10) rfl) sub_n)))) (by decide +kernel)) ggX11_bestRow_X11_nextRow
noncomputable def dX11_bestRow_0_l : List (Nat × Instr × Nat) := [(0, .aload_n 0, 1), (1, .iload_n 1, 1), (2, .invokevirtual 330, 3), (5, .ifCond .ne 7, 3), (8, .sipush (-1001), 3), (11, .ireturn, 1), (12, .iload_n 2, 1), (13, .i2l, 1), (14, .lconst 1, 1), (15, .ldc2_w 333, 3), (18, .invokestatic 126, 3), (21, .ifCond .ne 7, 3), (24, .sipush (-1002), 3), (27, .ireturn, 1), (28, .iload_n 1, 1), (29, .invokestatic 341, 3), (32, .bipush 7, 2), (34, .if_icmp .le 7, 3), (37, .sipush (-1003), 3), (40, .ireturn, 1), (41, .aload_n 0, 1), (42, .iload_n 1, 1), (43, .invokevirtual 335, 3), (46, .iconst (-1), 1), (47, .istore 4, 2), (49, .iconst 0, 1), (50, .istore 5, 2), (52, .iconst 1, 1), (53, .istore 6, 2), (55, .iload 6, 2), (57, .ifCond .eq 88, 3), (60, .aload_n 0, 1), (61, .iload_n 2, 1), (62, .invokevirtual 338, 3), (65, .aload_n 0, 1), (66, .getfield 321, 3), (69, .iload 4, 2), (71, .if_icmp .gt 21, 3), (74, .aload_n 0, 1), (75, .getfield 321, 3)]
set_option maxRecDepth 100000 in
theorem dX11_bestRow_0_g : dX11_bestRow_0_l.all (fun x => decide (decode cX11_bestRow x.1 = .ok x.2)) = true := by decide +kernel
theorem dX11_bestRow_0 : decode cX11_bestRow 0 = .ok (.aload_n 0, 1) := nq_d dX11_bestRow_0_g (n := 0) rfl
theorem dX11_bestRow_1 : decode cX11_bestRow 1 = .ok (.iload_n 1, 1) := nq_d dX11_bestRow_0_g (n := 1) rfl
theorem dX11_bestRow_2 : decode cX11_bestRow 2 = .ok (.invokevirtual 330, 3) := nq_d dX11_bestRow_0_g (n := 2) rfl
theorem dX11_bestRow_5 : decode cX11_bestRow 5 = .ok (.ifCond .ne 7, 3) := nq_d dX11_bestRow_0_g (n := 3) rfl
theorem dX11_bestRow_8 : decode cX11_bestRow 8 = .ok (.sipush (-1001), 3) := nq_d dX11_bestRow_0_g (n := 4) rfl
theorem dX11_bestRow_11 : decode cX11_bestRow 11 = .ok (.ireturn, 1) := nq_d dX11_bestRow_0_g (n := 5) rfl
theorem dX11_bestRow_12 : decode cX11_bestRow 12 = .ok (.iload_n 2, 1) := nq_d dX11_bestRow_0_g (n := 6) rfl
theorem dX11_bestRow_13 : decode cX11_bestRow 13 = .ok (.i2l, 1) := nq_d dX11_bestRow_0_g (n := 7) rfl
theorem dX11_bestRow_14 : decode cX11_bestRow 14 = .ok (.lconst 1, 1) := nq_d dX11_bestRow_0_g (n := 8) rfl
theorem dX11_bestRow_15 : decode cX11_bestRow 15 = .ok (.ldc2_w 333, 3) := nq_d dX11_bestRow_0_g (n := 9) rfl
theorem dX11_bestRow_18 : decode cX11_bestRow 18 = .ok (.invokestatic 126, 3) := nq_d dX11_bestRow_0_g (n := 10) rfl
theorem dX11_bestRow_21 : decode cX11_bestRow 21 = .ok (.ifCond .ne 7, 3) := nq_d dX11_bestRow_0_g (n := 11) rfl
theorem dX11_bestRow_24 : decode cX11_bestRow 24 = .ok (.sipush (-1002), 3) := nq_d dX11_bestRow_0_g (n := 12) rfl
theorem dX11_bestRow_27 : decode cX11_bestRow 27 = .ok (.ireturn, 1) := nq_d dX11_bestRow_0_g (n := 13) rfl
theorem dX11_bestRow_28 : decode cX11_bestRow 28 = .ok (.iload_n 1, 1) := nq_d dX11_bestRow_0_g (n := 14) rfl
theorem dX11_bestRow_29 : decode cX11_bestRow 29 = .ok (.invokestatic 341, 3) := nq_d dX11_bestRow_0_g (n := 15) rfl
theorem dX11_bestRow_32 : decode cX11_bestRow 32 = .ok (.bipush 7, 2) := nq_d dX11_bestRow_0_g (n := 16) rfl
theorem dX11_bestRow_34 : decode cX11_bestRow 34 = .ok (.if_icmp .le 7, 3) := nq_d dX11_bestRow_0_g (n := 17) rfl
theorem dX11_bestRow_37 : decode cX11_bestRow 37 = .ok (.sipush (-1003), 3) := nq_d dX11_bestRow_0_g (n := 18) rfl
theorem dX11_bestRow_40 : decode cX11_bestRow 40 = .ok (.ireturn, 1) := nq_d dX11_bestRow_0_g (n := 19) rfl
theorem dX11_bestRow_41 : decode cX11_bestRow 41 = .ok (.aload_n 0, 1) := nq_d dX11_bestRow_0_g (n := 20) rfl
theorem dX11_bestRow_42 : decode cX11_bestRow 42 = .ok (.iload_n 1, 1) := nq_d dX11_bestRow_0_g (n := 21) rfl
theorem dX11_bestRow_43 : decode cX11_bestRow 43 = .ok (.invokevirtual 335, 3) := nq_d dX11_bestRow_0_g (n := 22) rfl
theorem dX11_bestRow_46 : decode cX11_bestRow 46 = .ok (.iconst (-1), 1) := nq_d dX11_bestRow_0_g (n := 23) rfl
theorem dX11_bestRow_47 : decode cX11_bestRow 47 = .ok (.istore 4, 2) := nq_d dX11_bestRow_0_g (n := 24) rfl
theorem dX11_bestRow_49 : decode cX11_bestRow 49 = .ok (.iconst 0, 1) := nq_d dX11_bestRow_0_g (n := 25) rfl
theorem dX11_bestRow_50 : decode cX11_bestRow 50 = .ok (.istore 5, 2) := nq_d dX11_bestRow_0_g (n := 26) rfl
theorem dX11_bestRow_52 : decode cX11_bestRow 52 = .ok (.iconst 1, 1) := nq_d dX11_bestRow_0_g (n := 27) rfl
theorem dX11_bestRow_53 : decode cX11_bestRow 53 = .ok (.istore 6, 2) := nq_d dX11_bestRow_0_g (n := 28) rfl
theorem dX11_bestRow_55 : decode cX11_bestRow 55 = .ok (.iload 6, 2) := nq_d dX11_bestRow_0_g (n := 29) rfl
theorem dX11_bestRow_57 : decode cX11_bestRow 57 = .ok (.ifCond .eq 88, 3) := nq_d dX11_bestRow_0_g (n := 30) rfl
theorem dX11_bestRow_60 : decode cX11_bestRow 60 = .ok (.aload_n 0, 1) := nq_d dX11_bestRow_0_g (n := 31) rfl
theorem dX11_bestRow_61 : decode cX11_bestRow 61 = .ok (.iload_n 2, 1) := nq_d dX11_bestRow_0_g (n := 32) rfl
theorem dX11_bestRow_62 : decode cX11_bestRow 62 = .ok (.invokevirtual 338, 3) := nq_d dX11_bestRow_0_g (n := 33) rfl
theorem dX11_bestRow_65 : decode cX11_bestRow 65 = .ok (.aload_n 0, 1) := nq_d dX11_bestRow_0_g (n := 34) rfl
theorem dX11_bestRow_66 : decode cX11_bestRow 66 = .ok (.getfield 321, 3) := nq_d dX11_bestRow_0_g (n := 35) rfl
theorem dX11_bestRow_69 : decode cX11_bestRow 69 = .ok (.iload 4, 2) := nq_d dX11_bestRow_0_g (n := 36) rfl
theorem dX11_bestRow_71 : decode cX11_bestRow 71 = .ok (.if_icmp .gt 21, 3) := nq_d dX11_bestRow_0_g (n := 37) rfl
theorem dX11_bestRow_74 : decode cX11_bestRow 74 = .ok (.aload_n 0, 1) := nq_d dX11_bestRow_0_g (n := 38) rfl
theorem dX11_bestRow_75 : decode cX11_bestRow 75 = .ok (.getfield 321, 3) := nq_d dX11_bestRow_0_g (n := 39) rfl
noncomputable def dX11_bestRow_78_l : List (Nat × Instr × Nat) := [(78, .iload 4, 2), (80, .if_icmp .ne 56, 3), (83, .aload_n 0, 1), (84, .getfield 315, 3), (87, .iload 5, 2), (89, .if_icmp .ge 47, 3), (92, .aload_n 0, 1), (93, .getfield 321, 3), (96, .istore 4, 2), (98, .aload_n 0, 1), (99, .getfield 315, 3), (102, .istore 5, 2), (104, .iconst 0, 1), (105, .istore 7, 2), (107, .iload 7, 2), (109, .aload_n 0, 1), (110, .getfield 324, 3), (113, .if_icmp .ge 23, 3), (116, .aload_n 0, 1), (117, .getfield 96, 3), (120, .iload 7, 2), (122, .aload_n 0, 1), (123, .getfield 90, 3), (126, .iload 7, 2), (128, .iaload, 1), (129, .iastore, 1), (130, .iinc 7 1, 3), (133, .goto (-26), 3), (136, .aload_n 0, 1), (137, .invokevirtual 344, 3), (140, .istore 6, 2), (142, .goto (-87), 3), (145, .iload_n 3, 1), (146, .iconst (-1), 1), (147, .if_icmp .ne 8, 3), (150, .iload 4, 2), (152, .goto 29, 3), (155, .iload_n 3, 1), (156, .i2l, 1), (157, .lconst 0, 1)]
set_option maxRecDepth 100000 in
theorem dX11_bestRow_78_g : dX11_bestRow_78_l.all (fun x => decide (decode cX11_bestRow x.1 = .ok x.2)) = true := by decide +kernel
theorem dX11_bestRow_78 : decode cX11_bestRow 78 = .ok (.iload 4, 2) := nq_d dX11_bestRow_78_g (n := 0) rfl
theorem dX11_bestRow_80 : decode cX11_bestRow 80 = .ok (.if_icmp .ne 56, 3) := nq_d dX11_bestRow_78_g (n := 1) rfl
theorem dX11_bestRow_83 : decode cX11_bestRow 83 = .ok (.aload_n 0, 1) := nq_d dX11_bestRow_78_g (n := 2) rfl
theorem dX11_bestRow_84 : decode cX11_bestRow 84 = .ok (.getfield 315, 3) := nq_d dX11_bestRow_78_g (n := 3) rfl
theorem dX11_bestRow_87 : decode cX11_bestRow 87 = .ok (.iload 5, 2) := nq_d dX11_bestRow_78_g (n := 4) rfl
theorem dX11_bestRow_89 : decode cX11_bestRow 89 = .ok (.if_icmp .ge 47, 3) := nq_d dX11_bestRow_78_g (n := 5) rfl
theorem dX11_bestRow_92 : decode cX11_bestRow 92 = .ok (.aload_n 0, 1) := nq_d dX11_bestRow_78_g (n := 6) rfl
theorem dX11_bestRow_93 : decode cX11_bestRow 93 = .ok (.getfield 321, 3) := nq_d dX11_bestRow_78_g (n := 7) rfl
theorem dX11_bestRow_96 : decode cX11_bestRow 96 = .ok (.istore 4, 2) := nq_d dX11_bestRow_78_g (n := 8) rfl
theorem dX11_bestRow_98 : decode cX11_bestRow 98 = .ok (.aload_n 0, 1) := nq_d dX11_bestRow_78_g (n := 9) rfl
theorem dX11_bestRow_99 : decode cX11_bestRow 99 = .ok (.getfield 315, 3) := nq_d dX11_bestRow_78_g (n := 10) rfl
theorem dX11_bestRow_102 : decode cX11_bestRow 102 = .ok (.istore 5, 2) := nq_d dX11_bestRow_78_g (n := 11) rfl
theorem dX11_bestRow_104 : decode cX11_bestRow 104 = .ok (.iconst 0, 1) := nq_d dX11_bestRow_78_g (n := 12) rfl
theorem dX11_bestRow_105 : decode cX11_bestRow 105 = .ok (.istore 7, 2) := nq_d dX11_bestRow_78_g (n := 13) rfl
theorem dX11_bestRow_107 : decode cX11_bestRow 107 = .ok (.iload 7, 2) := nq_d dX11_bestRow_78_g (n := 14) rfl
theorem dX11_bestRow_109 : decode cX11_bestRow 109 = .ok (.aload_n 0, 1) := nq_d dX11_bestRow_78_g (n := 15) rfl
theorem dX11_bestRow_110 : decode cX11_bestRow 110 = .ok (.getfield 324, 3) := nq_d dX11_bestRow_78_g (n := 16) rfl
theorem dX11_bestRow_113 : decode cX11_bestRow 113 = .ok (.if_icmp .ge 23, 3) := nq_d dX11_bestRow_78_g (n := 17) rfl
theorem dX11_bestRow_116 : decode cX11_bestRow 116 = .ok (.aload_n 0, 1) := nq_d dX11_bestRow_78_g (n := 18) rfl
theorem dX11_bestRow_117 : decode cX11_bestRow 117 = .ok (.getfield 96, 3) := nq_d dX11_bestRow_78_g (n := 19) rfl
theorem dX11_bestRow_120 : decode cX11_bestRow 120 = .ok (.iload 7, 2) := nq_d dX11_bestRow_78_g (n := 20) rfl
theorem dX11_bestRow_122 : decode cX11_bestRow 122 = .ok (.aload_n 0, 1) := nq_d dX11_bestRow_78_g (n := 21) rfl
theorem dX11_bestRow_123 : decode cX11_bestRow 123 = .ok (.getfield 90, 3) := nq_d dX11_bestRow_78_g (n := 22) rfl
theorem dX11_bestRow_126 : decode cX11_bestRow 126 = .ok (.iload 7, 2) := nq_d dX11_bestRow_78_g (n := 23) rfl
theorem dX11_bestRow_128 : decode cX11_bestRow 128 = .ok (.iaload, 1) := nq_d dX11_bestRow_78_g (n := 24) rfl
theorem dX11_bestRow_129 : decode cX11_bestRow 129 = .ok (.iastore, 1) := nq_d dX11_bestRow_78_g (n := 25) rfl
theorem dX11_bestRow_130 : decode cX11_bestRow 130 = .ok (.iinc 7 1, 3) := nq_d dX11_bestRow_78_g (n := 26) rfl
theorem dX11_bestRow_133 : decode cX11_bestRow 133 = .ok (.goto (-26), 3) := nq_d dX11_bestRow_78_g (n := 27) rfl
theorem dX11_bestRow_136 : decode cX11_bestRow 136 = .ok (.aload_n 0, 1) := nq_d dX11_bestRow_78_g (n := 28) rfl
theorem dX11_bestRow_137 : decode cX11_bestRow 137 = .ok (.invokevirtual 344, 3) := nq_d dX11_bestRow_78_g (n := 29) rfl
theorem dX11_bestRow_140 : decode cX11_bestRow 140 = .ok (.istore 6, 2) := nq_d dX11_bestRow_78_g (n := 30) rfl
theorem dX11_bestRow_142 : decode cX11_bestRow 142 = .ok (.goto (-87), 3) := nq_d dX11_bestRow_78_g (n := 31) rfl
theorem dX11_bestRow_145 : decode cX11_bestRow 145 = .ok (.iload_n 3, 1) := nq_d dX11_bestRow_78_g (n := 32) rfl
theorem dX11_bestRow_146 : decode cX11_bestRow 146 = .ok (.iconst (-1), 1) := nq_d dX11_bestRow_78_g (n := 33) rfl
theorem dX11_bestRow_147 : decode cX11_bestRow 147 = .ok (.if_icmp .ne 8, 3) := nq_d dX11_bestRow_78_g (n := 34) rfl
theorem dX11_bestRow_150 : decode cX11_bestRow 150 = .ok (.iload 4, 2) := nq_d dX11_bestRow_78_g (n := 35) rfl
theorem dX11_bestRow_152 : decode cX11_bestRow 152 = .ok (.goto 29, 3) := nq_d dX11_bestRow_78_g (n := 36) rfl
theorem dX11_bestRow_155 : decode cX11_bestRow 155 = .ok (.iload_n 3, 1) := nq_d dX11_bestRow_78_g (n := 37) rfl
theorem dX11_bestRow_156 : decode cX11_bestRow 156 = .ok (.i2l, 1) := nq_d dX11_bestRow_78_g (n := 38) rfl
theorem dX11_bestRow_157 : decode cX11_bestRow 157 = .ok (.lconst 0, 1) := nq_d dX11_bestRow_78_g (n := 39) rfl
noncomputable def dX11_bestRow_158_l : List (Nat × Instr × Nat) := [(158, .aload_n 0, 1), (159, .getfield 324, 3), (162, .iconst 1, 1), (163, .isub, 1), (164, .i2l, 1), (165, .invokestatic 126, 3), (168, .ifCond .eq 12, 3), (171, .aload_n 0, 1), (172, .getfield 96, 3), (175, .iload_n 3, 1), (176, .iaload, 1), (177, .goto 4, 3), (180, .iconst (-1), 1), (181, .ireturn, 1)]
set_option maxRecDepth 100000 in
theorem dX11_bestRow_158_g : dX11_bestRow_158_l.all (fun x => decide (decode cX11_bestRow x.1 = .ok x.2)) = true := by decide +kernel
theorem dX11_bestRow_158 : decode cX11_bestRow 158 = .ok (.aload_n 0, 1) := nq_d dX11_bestRow_158_g (n := 0) rfl
theorem dX11_bestRow_159 : decode cX11_bestRow 159 = .ok (.getfield 324, 3) := nq_d dX11_bestRow_158_g (n := 1) rfl
theorem dX11_bestRow_162 : decode cX11_bestRow 162 = .ok (.iconst 1, 1) := nq_d dX11_bestRow_158_g (n := 2) rfl
theorem dX11_bestRow_163 : decode cX11_bestRow 163 = .ok (.isub, 1) := nq_d dX11_bestRow_158_g (n := 3) rfl
theorem dX11_bestRow_164 : decode cX11_bestRow 164 = .ok (.i2l, 1) := nq_d dX11_bestRow_158_g (n := 4) rfl
theorem dX11_bestRow_165 : decode cX11_bestRow 165 = .ok (.invokestatic 126, 3) := nq_d dX11_bestRow_158_g (n := 5) rfl
theorem dX11_bestRow_168 : decode cX11_bestRow 168 = .ok (.ifCond .eq 12, 3) := nq_d dX11_bestRow_158_g (n := 6) rfl
theorem dX11_bestRow_171 : decode cX11_bestRow 171 = .ok (.aload_n 0, 1) := nq_d dX11_bestRow_158_g (n := 7) rfl
theorem dX11_bestRow_172 : decode cX11_bestRow 172 = .ok (.getfield 96, 3) := nq_d dX11_bestRow_158_g (n := 8) rfl
theorem dX11_bestRow_175 : decode cX11_bestRow 175 = .ok (.iload_n 3, 1) := nq_d dX11_bestRow_158_g (n := 9) rfl
theorem dX11_bestRow_176 : decode cX11_bestRow 176 = .ok (.iaload, 1) := nq_d dX11_bestRow_158_g (n := 10) rfl
theorem dX11_bestRow_177 : decode cX11_bestRow 177 = .ok (.goto 4, 3) := nq_d dX11_bestRow_158_g (n := 11) rfl
theorem dX11_bestRow_180 : decode cX11_bestRow 180 = .ok (.iconst (-1), 1) := nq_d dX11_bestRow_158_g (n := 12) rfl
theorem dX11_bestRow_181 : decode cX11_bestRow 181 = .ok (.ireturn, 1) := nq_d dX11_bestRow_158_g (n := 13) rfl
set_option maxRecDepth 100000 in
theorem ggX11_wanted_X11_areHanging : GoodIn wsX11_wanted wsX11_areHanging := goodIn_sub (sub_c (nq_m (n := 7) rfl) (sub_c (nq_m (n := 8) rfl) (sub_c (nq_m (n := 9) rfl) (sub_c (nq_m (n := 10) rfl) (sub_c (nq_m (n := 11) rfl) (sub_c (nq_m (n := 6) rfl) (sub_c (nq_m (n := 12) rfl) (sub_c (nq_m (n := 13) rfl) (sub_c (nq_m (n := 14) rfl) (sub_c (nq_m (n := 15) rfl) (sub_c (nq_m (n := 16) rfl) (sub_c (nq_m (n := 17) rfl) (sub_c (nq_m (n := 18) rfl) (sub_c (nq_m (n := 19) rfl) (sub_c (nq_m (n := 20) rfl) (sub_c (nq_m (n := 21) rfl) (sub_c (nq_m (n := 38) rfl) (sub_c (nq_m (n := 39) rfl) (sub_c (nq_m (n := 40) rfl) (sub_c (nq_m (n := 41) rfl) (sub_c (nq_m (n := 42) rfl) (sub_c (nq_m (n := 43) rfl) (sub_c (nq_m (n := 44) rfl) (sub_c (nq_m (n := 45) rfl) (sub_c (nq_m (n := 46) rfl) (sub_c (nq_m (n := 47) rfl) (sub_c (nq_m (n := 48) rfl) (sub_c (nq_m (n := 49) rfl) (sub_c (nq_m (n := 50) rfl) (sub_c (nq_m (n := 51) rfl) (sub_c (nq_m (n := 52) rfl) (sub_c (nq_m (n := 53) rfl) (sub_c (nq_m (n := 54) rfl) (sub_c (nq_m (n := 55) rfl) (sub_c (nq_m (n := 56) rfl) (sub_c (nq_m (n := 57) rfl) (sub_c (nq_m (n := 58) rfl) (sub_c (nq_m (n := 59) rfl) (sub_c (nq_m (n := 60) rfl) (sub_c (nq_m (n := 61) rfl) (sub_c (nq_m (n := 62) rfl) (sub_c (nq_m (n := 63) rfl) (sub_c (nq_m (n := 64) rfl) (sub_c (nq_m (n := 65) rfl) (sub_c (nq_m (n := 66) rfl) (sub_c (nq_m (n := 67) rfl) (sub_c (nq_m (n := 68) rfl) (sub_c (nq_m (n := 69) rfl) (sub_c (nq_m (n := 70) rfl) (sub_c (nq_m (n := 71) rfl) (sub_c (nq_m (n := 72) rfl) (sub_c (nq_m (n := 73) rfl) (sub_c (nq_m (n := 74) rfl) (sub_c (nq_m (n := 75) rfl) (sub_c (nq_m (n := 76) rfl) (sub_c (nq_m (n := 77) rfl) (sub_c (nq_m (n := 78) rfl) (sub_c (nq_m (n := 79) rfl) (sub_c (nq_m (n := 80) rfl) (sub_c (nq_m (n := 81) rfl) (sub_c (nq_m (n := 82) rfl) (sub_c (nq_m (n := 83) rfl) (sub_c (nq_m (n := 84) rfl) (sub_c (nq_m (n := 85) rfl) (sub_c (nq_m (n := 86) rfl) (sub_c (nq_m (n := 87) rfl) (sub_c (nq_m (n := 88) rfl) (sub_c (nq_m (n := 89) rfl) (sub_c (nq_m (n := 90) rfl) (sub_c (nq_m (n := 91) rfl) (sub_c (nq_m (n := 92) rfl) (sub_c (nq_m (n := 93) rfl) (sub_c (nq_m (n := 94) rfl) (sub_c (nq_m (n := 95) rfl) sub_n)))))))))))))))))))))))))))))))))))))))))))))))))))))))))))))))))))))))))) (by decide +kernel)
set_option maxRecDepth 100000 in
theorem gX11_wanted_X11_areHanging : GoodIn wsX11_wanted (wsV RX11 330 RX11 yX11_areHanging wsX11_areHanging) := goodIn_app (goodIn_sub (sub_c (nq_m (n := 3) rfl) (sub_c (nq_m (n := 4) rfl) (sub_c (nq_m (n := 5) rfl) (sub_c (nq_m (n := 6) rfl) sub_n)))) (by decide +kernel)) ggX11_wanted_X11_areHanging
set_option maxRecDepth 100000 in
theorem ggX11_wanted_X11_in : GoodIn wsX11_wanted wsX11_in := goodIn_sub (sub_c (nq_m (n := 15) rfl) sub_n) (by decide +kernel)
set_option maxRecDepth 100000 in
theorem gX11_wanted_X11_in : GoodIn wsX11_wanted (va_wsS RX11 126 yX11_in wsX11_in) := goodIn_app (goodIn_sub (sub_c (nq_m (n := 13) rfl) (sub_c (nq_m (n := 14) rfl) (sub_c (nq_m (n := 6) rfl) sub_n))) (by decide +kernel)) ggX11_wanted_X11_in
set_option maxRecDepth 100000 in
theorem ggX11_wanted_X11_fillRow : GoodIn wsX11_wanted wsX11_fillRow := goodIn_sub (sub_c (nq_m (n := 25) rfl) (sub_c (nq_m (n := 26) rfl) (sub_c (nq_m (n := 8) rfl) (sub_c (nq_m (n := 27) rfl) (sub_c (nq_m (n := 38) rfl) (sub_c (nq_m (n := 39) rfl) (sub_c (nq_m (n := 40) rfl) (sub_c (nq_m (n := 41) rfl) (sub_c (nq_m (n := 42) rfl) (sub_c (nq_m (n := 43) rfl) (sub_c (nq_m (n := 44) rfl) (sub_c (nq_m (n := 45) rfl) (sub_c (nq_m (n := 46) rfl) (sub_c (nq_m (n := 47) rfl) (sub_c (nq_m (n := 48) rfl) (sub_c (nq_m (n := 49) rfl) (sub_c (nq_m (n := 50) rfl) (sub_c (nq_m (n := 51) rfl) (sub_c (nq_m (n := 52) rfl) (sub_c (nq_m (n := 53) rfl) (sub_c (nq_m (n := 54) rfl) (sub_c (nq_m (n := 55) rfl) (sub_c (nq_m (n := 56) rfl) (sub_c (nq_m (n := 57) rfl) (sub_c (nq_m (n := 58) rfl) (sub_c (nq_m (n := 59) rfl) (sub_c (nq_m (n := 60) rfl) (sub_c (nq_m (n := 61) rfl) (sub_c (nq_m (n := 62) rfl) (sub_c (nq_m (n := 63) rfl) (sub_c (nq_m (n := 64) rfl) (sub_c (nq_m (n := 65) rfl) (sub_c (nq_m (n := 66) rfl) (sub_c (nq_m (n := 67) rfl) (sub_c (nq_m (n := 68) rfl) (sub_c (nq_m (n := 69) rfl) (sub_c (nq_m (n := 70) rfl) (sub_c (nq_m (n := 71) rfl) (sub_c (nq_m (n := 72) rfl) (sub_c (nq_m (n := 73) rfl) (sub_c (nq_m (n := 74) rfl) (sub_c (nq_m (n := 75) rfl) (sub_c (nq_m (n := 76) rfl) (sub_c (nq_m (n := 77) rfl) (sub_c (nq_m (n := 78) rfl) (sub_c (nq_m (n := 79) rfl) (sub_c (nq_m (n := 80) rfl) (sub_c (nq_m (n := 81) rfl) (sub_c (nq_m (n := 82) rfl) (sub_c (nq_m (n := 83) rfl) (sub_c (nq_m (n := 84) rfl) (sub_c (nq_m (n := 85) rfl) (sub_c (nq_m (n := 86) rfl) (sub_c (nq_m (n := 87) rfl) (sub_c (nq_m (n := 88) rfl) (sub_c (nq_m (n := 89) rfl) (sub_c (nq_m (n := 90) rfl) (sub_c (nq_m (n := 91) rfl) (sub_c (nq_m (n := 92) rfl) (sub_c (nq_m (n := 93) rfl) (sub_c (nq_m (n := 94) rfl) (sub_c (nq_m (n := 95) rfl) sub_n)))))))))))))))))))))))))))))))))))))))))))))))))))))))))))))) (by decide +kernel)
set_option maxRecDepth 100000 in
theorem gX11_wanted_X11_fillRow : GoodIn wsX11_wanted (wsV RX11 335 RX11 yX11_fillRow wsX11_fillRow) := goodIn_app (goodIn_sub (sub_c (nq_m (n := 22) rfl) (sub_c (nq_m (n := 23) rfl) (sub_c (nq_m (n := 24) rfl) (sub_c (nq_m (n := 6) rfl) sub_n)))) (by decide +kernel)) ggX11_wanted_X11_fillRow
set_option maxRecDepth 100000 in
theorem ggX11_wanted_X11_runRow : GoodIn wsX11_wanted wsX11_runRow := goodIn_sub (sub_c (nq_m (n := 31) rfl) (sub_c (nq_m (n := 32) rfl) (sub_c (nq_m (n := 2) rfl) (sub_c (nq_m (n := 33) rfl) (sub_c (nq_m (n := 34) rfl) (sub_c (nq_m (n := 26) rfl) (sub_c (nq_m (n := 27) rfl) (sub_c (nq_m (n := 35) rfl) (sub_c (nq_m (n := 36) rfl) (sub_c (nq_m (n := 37) rfl) (sub_c (nq_m (n := 16) rfl) (sub_c (nq_m (n := 17) rfl) (sub_c (nq_m (n := 18) rfl) (sub_c (nq_m (n := 6) rfl) (sub_c (nq_m (n := 19) rfl) (sub_c (nq_m (n := 20) rfl) (sub_c (nq_m (n := 21) rfl) (sub_c (nq_m (n := 38) rfl) (sub_c (nq_m (n := 39) rfl) (sub_c (nq_m (n := 40) rfl) (sub_c (nq_m (n := 41) rfl) (sub_c (nq_m (n := 42) rfl) (sub_c (nq_m (n := 43) rfl) (sub_c (nq_m (n := 44) rfl) (sub_c (nq_m (n := 45) rfl) (sub_c (nq_m (n := 46) rfl) (sub_c (nq_m (n := 47) rfl) (sub_c (nq_m (n := 48) rfl) (sub_c (nq_m (n := 49) rfl) (sub_c (nq_m (n := 50) rfl) (sub_c (nq_m (n := 51) rfl) (sub_c (nq_m (n := 52) rfl) (sub_c (nq_m (n := 53) rfl) (sub_c (nq_m (n := 54) rfl) (sub_c (nq_m (n := 55) rfl) (sub_c (nq_m (n := 56) rfl) (sub_c (nq_m (n := 57) rfl) (sub_c (nq_m (n := 58) rfl) (sub_c (nq_m (n := 59) rfl) (sub_c (nq_m (n := 60) rfl) (sub_c (nq_m (n := 61) rfl) (sub_c (nq_m (n := 62) rfl) (sub_c (nq_m (n := 63) rfl) (sub_c (nq_m (n := 64) rfl) (sub_c (nq_m (n := 65) rfl) (sub_c (nq_m (n := 66) rfl) (sub_c (nq_m (n := 67) rfl) (sub_c (nq_m (n := 68) rfl) (sub_c (nq_m (n := 69) rfl) (sub_c (nq_m (n := 70) rfl) (sub_c (nq_m (n := 71) rfl) (sub_c (nq_m (n := 72) rfl) (sub_c (nq_m (n := 73) rfl) (sub_c (nq_m (n := 74) rfl) (sub_c (nq_m (n := 75) rfl) (sub_c (nq_m (n := 76) rfl) (sub_c (nq_m (n := 77) rfl) (sub_c (nq_m (n := 78) rfl) (sub_c (nq_m (n := 79) rfl) (sub_c (nq_m (n := 80) rfl) (sub_c (nq_m (n := 81) rfl) (sub_c (nq_m (n := 82) rfl) (sub_c (nq_m (n := 83) rfl) (sub_c (nq_m (n := 84) rfl) (sub_c (nq_m (n := 85) rfl) (sub_c (nq_m (n := 86) rfl) (sub_c (nq_m (n := 87) rfl) (sub_c (nq_m (n := 88) rfl) (sub_c (nq_m (n := 89) rfl) (sub_c (nq_m (n := 90) rfl) (sub_c (nq_m (n := 91) rfl) (sub_c (nq_m (n := 92) rfl) (sub_c (nq_m (n := 93) rfl) (sub_c (nq_m (n := 94) rfl) (sub_c (nq_m (n := 95) rfl) sub_n))))))))))))))))))))))))))))))))))))))))))))))))))))))))))))))))))))))))))) (by decide +kernel)
set_option maxRecDepth 100000 in
theorem gX11_wanted_X11_runRow : GoodIn wsX11_wanted (wsV RX11 338 RX11 yX11_runRow wsX11_runRow) := goodIn_app (goodIn_sub (sub_c (nq_m (n := 28) rfl) (sub_c (nq_m (n := 29) rfl) (sub_c (nq_m (n := 30) rfl) (sub_c (nq_m (n := 6) rfl) sub_n)))) (by decide +kernel)) ggX11_wanted_X11_runRow
noncomputable def dX11_wanted_0_l : List (Nat × Instr × Nat) := [(0, .aload_n 0, 1), (1, .iload_n 1, 1), (2, .invokevirtual 330, 3), (5, .ifCond .ne 7, 3), (8, .sipush (-1001), 3), (11, .ireturn, 1), (12, .iload_n 2, 1), (13, .i2l, 1), (14, .lconst 0, 1), (15, .ldc2_w 348, 3), (18, .invokestatic 126, 3), (21, .ifCond .ne 7, 3), (24, .sipush (-1002), 3), (27, .ireturn, 1), (28, .aload_n 0, 1), (29, .iload_n 1, 1), (30, .invokevirtual 335, 3), (33, .iconst 1, 1), (34, .istore_n 3, 1), (35, .iload_n 3, 1), (36, .iconst 4, 1), (37, .if_icmp .gt 24, 3), (40, .aload_n 0, 1), (41, .iload_n 3, 1), (42, .invokevirtual 338, 3), (45, .aload_n 0, 1), (46, .getfield 318, 3), (49, .iload_n 2, 1), (50, .if_icmp .gt 5, 3), (53, .iload_n 3, 1), (54, .ireturn, 1), (55, .iinc 3 1, 3), (58, .goto (-23), 3), (61, .iconst (-1), 1), (62, .ireturn, 1)]
set_option maxRecDepth 100000 in
theorem dX11_wanted_0_g : dX11_wanted_0_l.all (fun x => decide (decode cX11_wanted x.1 = .ok x.2)) = true := by decide +kernel
theorem dX11_wanted_0 : decode cX11_wanted 0 = .ok (.aload_n 0, 1) := nq_d dX11_wanted_0_g (n := 0) rfl
theorem dX11_wanted_1 : decode cX11_wanted 1 = .ok (.iload_n 1, 1) := nq_d dX11_wanted_0_g (n := 1) rfl
theorem dX11_wanted_2 : decode cX11_wanted 2 = .ok (.invokevirtual 330, 3) := nq_d dX11_wanted_0_g (n := 2) rfl
theorem dX11_wanted_5 : decode cX11_wanted 5 = .ok (.ifCond .ne 7, 3) := nq_d dX11_wanted_0_g (n := 3) rfl
theorem dX11_wanted_8 : decode cX11_wanted 8 = .ok (.sipush (-1001), 3) := nq_d dX11_wanted_0_g (n := 4) rfl
theorem dX11_wanted_11 : decode cX11_wanted 11 = .ok (.ireturn, 1) := nq_d dX11_wanted_0_g (n := 5) rfl
theorem dX11_wanted_12 : decode cX11_wanted 12 = .ok (.iload_n 2, 1) := nq_d dX11_wanted_0_g (n := 6) rfl
theorem dX11_wanted_13 : decode cX11_wanted 13 = .ok (.i2l, 1) := nq_d dX11_wanted_0_g (n := 7) rfl
theorem dX11_wanted_14 : decode cX11_wanted 14 = .ok (.lconst 0, 1) := nq_d dX11_wanted_0_g (n := 8) rfl
theorem dX11_wanted_15 : decode cX11_wanted 15 = .ok (.ldc2_w 348, 3) := nq_d dX11_wanted_0_g (n := 9) rfl
theorem dX11_wanted_18 : decode cX11_wanted 18 = .ok (.invokestatic 126, 3) := nq_d dX11_wanted_0_g (n := 10) rfl
theorem dX11_wanted_21 : decode cX11_wanted 21 = .ok (.ifCond .ne 7, 3) := nq_d dX11_wanted_0_g (n := 11) rfl
theorem dX11_wanted_24 : decode cX11_wanted 24 = .ok (.sipush (-1002), 3) := nq_d dX11_wanted_0_g (n := 12) rfl
theorem dX11_wanted_27 : decode cX11_wanted 27 = .ok (.ireturn, 1) := nq_d dX11_wanted_0_g (n := 13) rfl
theorem dX11_wanted_28 : decode cX11_wanted 28 = .ok (.aload_n 0, 1) := nq_d dX11_wanted_0_g (n := 14) rfl
theorem dX11_wanted_29 : decode cX11_wanted 29 = .ok (.iload_n 1, 1) := nq_d dX11_wanted_0_g (n := 15) rfl
theorem dX11_wanted_30 : decode cX11_wanted 30 = .ok (.invokevirtual 335, 3) := nq_d dX11_wanted_0_g (n := 16) rfl
theorem dX11_wanted_33 : decode cX11_wanted 33 = .ok (.iconst 1, 1) := nq_d dX11_wanted_0_g (n := 17) rfl
theorem dX11_wanted_34 : decode cX11_wanted 34 = .ok (.istore_n 3, 1) := nq_d dX11_wanted_0_g (n := 18) rfl
theorem dX11_wanted_35 : decode cX11_wanted 35 = .ok (.iload_n 3, 1) := nq_d dX11_wanted_0_g (n := 19) rfl
theorem dX11_wanted_36 : decode cX11_wanted 36 = .ok (.iconst 4, 1) := nq_d dX11_wanted_0_g (n := 20) rfl
theorem dX11_wanted_37 : decode cX11_wanted 37 = .ok (.if_icmp .gt 24, 3) := nq_d dX11_wanted_0_g (n := 21) rfl
theorem dX11_wanted_40 : decode cX11_wanted 40 = .ok (.aload_n 0, 1) := nq_d dX11_wanted_0_g (n := 22) rfl
theorem dX11_wanted_41 : decode cX11_wanted 41 = .ok (.iload_n 3, 1) := nq_d dX11_wanted_0_g (n := 23) rfl
theorem dX11_wanted_42 : decode cX11_wanted 42 = .ok (.invokevirtual 338, 3) := nq_d dX11_wanted_0_g (n := 24) rfl
theorem dX11_wanted_45 : decode cX11_wanted 45 = .ok (.aload_n 0, 1) := nq_d dX11_wanted_0_g (n := 25) rfl
theorem dX11_wanted_46 : decode cX11_wanted 46 = .ok (.getfield 318, 3) := nq_d dX11_wanted_0_g (n := 26) rfl
theorem dX11_wanted_49 : decode cX11_wanted 49 = .ok (.iload_n 2, 1) := nq_d dX11_wanted_0_g (n := 27) rfl
theorem dX11_wanted_50 : decode cX11_wanted 50 = .ok (.if_icmp .gt 5, 3) := nq_d dX11_wanted_0_g (n := 28) rfl
theorem dX11_wanted_53 : decode cX11_wanted 53 = .ok (.iload_n 3, 1) := nq_d dX11_wanted_0_g (n := 29) rfl
theorem dX11_wanted_54 : decode cX11_wanted 54 = .ok (.ireturn, 1) := nq_d dX11_wanted_0_g (n := 30) rfl
theorem dX11_wanted_55 : decode cX11_wanted 55 = .ok (.iinc 3 1, 3) := nq_d dX11_wanted_0_g (n := 31) rfl
theorem dX11_wanted_58 : decode cX11_wanted 58 = .ok (.goto (-23), 3) := nq_d dX11_wanted_0_g (n := 32) rfl
theorem dX11_wanted_61 : decode cX11_wanted 61 = .ok (.iconst (-1), 1) := nq_d dX11_wanted_0_g (n := 33) rfl
theorem dX11_wanted_62 : decode cX11_wanted 62 = .ok (.ireturn, 1) := nq_d dX11_wanted_0_g (n := 34) rfl
set_option maxRecDepth 100000 in
theorem ggX11_isClaim_X11_in : GoodIn wsX11_isClaim wsX11_in := goodIn_sub (sub_c (nq_m (n := 5) rfl) sub_n) (by decide +kernel)
set_option maxRecDepth 100000 in
theorem gX11_isClaim_X11_in : GoodIn wsX11_isClaim (va_wsS RX11 126 yX11_in wsX11_in) := goodIn_app (goodIn_sub (sub_c (nq_m (n := 2) rfl) (sub_c (nq_m (n := 3) rfl) (sub_c (nq_m (n := 4) rfl) sub_n))) (by decide +kernel)) ggX11_isClaim_X11_in
noncomputable def dX11_isClaim_0_l : List (Nat × Instr × Nat) := [(0, .iload_n 1, 1), (1, .i2l, 1), (2, .lconst 0, 1), (3, .aload_n 0, 1), (4, .getfield 238, 3), (7, .iconst 1, 1), (8, .isub, 1), (9, .i2l, 1), (10, .invokestatic 126, 3), (13, .ireturn, 1)]
set_option maxRecDepth 100000 in
theorem dX11_isClaim_0_g : dX11_isClaim_0_l.all (fun x => decide (decode cX11_isClaim x.1 = .ok x.2)) = true := by decide +kernel
theorem dX11_isClaim_0 : decode cX11_isClaim 0 = .ok (.iload_n 1, 1) := nq_d dX11_isClaim_0_g (n := 0) rfl
theorem dX11_isClaim_1 : decode cX11_isClaim 1 = .ok (.i2l, 1) := nq_d dX11_isClaim_0_g (n := 1) rfl
theorem dX11_isClaim_2 : decode cX11_isClaim 2 = .ok (.lconst 0, 1) := nq_d dX11_isClaim_0_g (n := 2) rfl
theorem dX11_isClaim_3 : decode cX11_isClaim 3 = .ok (.aload_n 0, 1) := nq_d dX11_isClaim_0_g (n := 3) rfl
theorem dX11_isClaim_4 : decode cX11_isClaim 4 = .ok (.getfield 238, 3) := nq_d dX11_isClaim_0_g (n := 4) rfl
theorem dX11_isClaim_7 : decode cX11_isClaim 7 = .ok (.iconst 1, 1) := nq_d dX11_isClaim_0_g (n := 5) rfl
theorem dX11_isClaim_8 : decode cX11_isClaim 8 = .ok (.isub, 1) := nq_d dX11_isClaim_0_g (n := 6) rfl
theorem dX11_isClaim_9 : decode cX11_isClaim 9 = .ok (.i2l, 1) := nq_d dX11_isClaim_0_g (n := 7) rfl
theorem dX11_isClaim_10 : decode cX11_isClaim 10 = .ok (.invokestatic 126, 3) := nq_d dX11_isClaim_0_g (n := 8) rfl
theorem dX11_isClaim_13 : decode cX11_isClaim 13 = .ok (.ireturn, 1) := nq_d dX11_isClaim_0_g (n := 9) rfl
noncomputable def dX11_hasClaim_0_l : List (Nat × Instr × Nat) := [(0, .iconst 0, 1), (1, .istore_n 2, 1), (2, .iconst 0, 1), (3, .istore_n 3, 1), (4, .iload_n 3, 1), (5, .aload_n 0, 1), (6, .getfield 238, 3), (9, .if_icmp .ge 29, 3), (12, .iload_n 2, 1), (13, .ifCond .ne 13, 3), (16, .aload_n 0, 1), (17, .getfield 99, 3), (20, .iload_n 3, 1), (21, .iaload, 1), (22, .iload_n 1, 1), (23, .if_icmp .ne 7, 3), (26, .iconst 1, 1), (27, .goto 4, 3), (30, .iconst 0, 1), (31, .istore_n 2, 1), (32, .iinc 3 1, 3), (35, .goto (-31), 3), (38, .iload_n 2, 1), (39, .ireturn, 1)]
set_option maxRecDepth 100000 in
theorem dX11_hasClaim_0_g : dX11_hasClaim_0_l.all (fun x => decide (decode cX11_hasClaim x.1 = .ok x.2)) = true := by decide +kernel
theorem dX11_hasClaim_0 : decode cX11_hasClaim 0 = .ok (.iconst 0, 1) := nq_d dX11_hasClaim_0_g (n := 0) rfl
theorem dX11_hasClaim_1 : decode cX11_hasClaim 1 = .ok (.istore_n 2, 1) := nq_d dX11_hasClaim_0_g (n := 1) rfl
theorem dX11_hasClaim_2 : decode cX11_hasClaim 2 = .ok (.iconst 0, 1) := nq_d dX11_hasClaim_0_g (n := 2) rfl
theorem dX11_hasClaim_3 : decode cX11_hasClaim 3 = .ok (.istore_n 3, 1) := nq_d dX11_hasClaim_0_g (n := 3) rfl
theorem dX11_hasClaim_4 : decode cX11_hasClaim 4 = .ok (.iload_n 3, 1) := nq_d dX11_hasClaim_0_g (n := 4) rfl
theorem dX11_hasClaim_5 : decode cX11_hasClaim 5 = .ok (.aload_n 0, 1) := nq_d dX11_hasClaim_0_g (n := 5) rfl
theorem dX11_hasClaim_6 : decode cX11_hasClaim 6 = .ok (.getfield 238, 3) := nq_d dX11_hasClaim_0_g (n := 6) rfl
theorem dX11_hasClaim_9 : decode cX11_hasClaim 9 = .ok (.if_icmp .ge 29, 3) := nq_d dX11_hasClaim_0_g (n := 7) rfl
theorem dX11_hasClaim_12 : decode cX11_hasClaim 12 = .ok (.iload_n 2, 1) := nq_d dX11_hasClaim_0_g (n := 8) rfl
theorem dX11_hasClaim_13 : decode cX11_hasClaim 13 = .ok (.ifCond .ne 13, 3) := nq_d dX11_hasClaim_0_g (n := 9) rfl
theorem dX11_hasClaim_16 : decode cX11_hasClaim 16 = .ok (.aload_n 0, 1) := nq_d dX11_hasClaim_0_g (n := 10) rfl
theorem dX11_hasClaim_17 : decode cX11_hasClaim 17 = .ok (.getfield 99, 3) := nq_d dX11_hasClaim_0_g (n := 11) rfl
theorem dX11_hasClaim_20 : decode cX11_hasClaim 20 = .ok (.iload_n 3, 1) := nq_d dX11_hasClaim_0_g (n := 12) rfl
theorem dX11_hasClaim_21 : decode cX11_hasClaim 21 = .ok (.iaload, 1) := nq_d dX11_hasClaim_0_g (n := 13) rfl
theorem dX11_hasClaim_22 : decode cX11_hasClaim 22 = .ok (.iload_n 1, 1) := nq_d dX11_hasClaim_0_g (n := 14) rfl
theorem dX11_hasClaim_23 : decode cX11_hasClaim 23 = .ok (.if_icmp .ne 7, 3) := nq_d dX11_hasClaim_0_g (n := 15) rfl
theorem dX11_hasClaim_26 : decode cX11_hasClaim 26 = .ok (.iconst 1, 1) := nq_d dX11_hasClaim_0_g (n := 16) rfl
theorem dX11_hasClaim_27 : decode cX11_hasClaim 27 = .ok (.goto 4, 3) := nq_d dX11_hasClaim_0_g (n := 17) rfl
theorem dX11_hasClaim_30 : decode cX11_hasClaim 30 = .ok (.iconst 0, 1) := nq_d dX11_hasClaim_0_g (n := 18) rfl
theorem dX11_hasClaim_31 : decode cX11_hasClaim 31 = .ok (.istore_n 2, 1) := nq_d dX11_hasClaim_0_g (n := 19) rfl
theorem dX11_hasClaim_32 : decode cX11_hasClaim 32 = .ok (.iinc 3 1, 3) := nq_d dX11_hasClaim_0_g (n := 20) rfl
theorem dX11_hasClaim_35 : decode cX11_hasClaim 35 = .ok (.goto (-31), 3) := nq_d dX11_hasClaim_0_g (n := 21) rfl
theorem dX11_hasClaim_38 : decode cX11_hasClaim 38 = .ok (.iload_n 2, 1) := nq_d dX11_hasClaim_0_g (n := 22) rfl
theorem dX11_hasClaim_39 : decode cX11_hasClaim 39 = .ok (.ireturn, 1) := nq_d dX11_hasClaim_0_g (n := 23) rfl
set_option maxRecDepth 100000 in
theorem ggX11_claim_X11_isGuest : GoodIn wsX11_claim wsX11_isGuest := goodIn_sub (sub_c (nq_m (n := 12) rfl) (sub_c (nq_m (n := 13) rfl) (sub_c (nq_m (n := 14) rfl) (sub_c (nq_m (n := 15) rfl) (sub_c (nq_m (n := 11) rfl) (sub_c (nq_m (n := 16) rfl) (sub_c (nq_m (n := 21) rfl) (sub_c (nq_m (n := 22) rfl) (sub_c (nq_m (n := 23) rfl) (sub_c (nq_m (n := 24) rfl) (sub_c (nq_m (n := 25) rfl) (sub_c (nq_m (n := 26) rfl) (sub_c (nq_m (n := 27) rfl) (sub_c (nq_m (n := 28) rfl) (sub_c (nq_m (n := 29) rfl) (sub_c (nq_m (n := 30) rfl) (sub_c (nq_m (n := 31) rfl) (sub_c (nq_m (n := 32) rfl) (sub_c (nq_m (n := 33) rfl) (sub_c (nq_m (n := 34) rfl) (sub_c (nq_m (n := 35) rfl) (sub_c (nq_m (n := 36) rfl) (sub_c (nq_m (n := 37) rfl) (sub_c (nq_m (n := 38) rfl) (sub_c (nq_m (n := 39) rfl) (sub_c (nq_m (n := 40) rfl) (sub_c (nq_m (n := 41) rfl) (sub_c (nq_m (n := 42) rfl) (sub_c (nq_m (n := 43) rfl) (sub_c (nq_m (n := 44) rfl) (sub_c (nq_m (n := 45) rfl) (sub_c (nq_m (n := 46) rfl) (sub_c (nq_m (n := 47) rfl) (sub_c (nq_m (n := 48) rfl) (sub_c (nq_m (n := 49) rfl) (sub_c (nq_m (n := 50) rfl) (sub_c (nq_m (n := 51) rfl) (sub_c (nq_m (n := 52) rfl) (sub_c (nq_m (n := 53) rfl) (sub_c (nq_m (n := 54) rfl) (sub_c (nq_m (n := 55) rfl) (sub_c (nq_m (n := 56) rfl) (sub_c (nq_m (n := 57) rfl) (sub_c (nq_m (n := 58) rfl) (sub_c (nq_m (n := 59) rfl) (sub_c (nq_m (n := 60) rfl) (sub_c (nq_m (n := 61) rfl) (sub_c (nq_m (n := 62) rfl) (sub_c (nq_m (n := 63) rfl) (sub_c (nq_m (n := 64) rfl) (sub_c (nq_m (n := 65) rfl) (sub_c (nq_m (n := 66) rfl) (sub_c (nq_m (n := 67) rfl) (sub_c (nq_m (n := 68) rfl) (sub_c (nq_m (n := 69) rfl) (sub_c (nq_m (n := 70) rfl) (sub_c (nq_m (n := 71) rfl) (sub_c (nq_m (n := 72) rfl) (sub_c (nq_m (n := 73) rfl) (sub_c (nq_m (n := 74) rfl) (sub_c (nq_m (n := 75) rfl) (sub_c (nq_m (n := 76) rfl) (sub_c (nq_m (n := 77) rfl) (sub_c (nq_m (n := 78) rfl) sub_n)))))))))))))))))))))))))))))))))))))))))))))))))))))))))))))))) (by decide +kernel)
set_option maxRecDepth 100000 in
theorem gX11_claim_X11_isGuest : GoodIn wsX11_claim (wsV RX11 255 RX11 yX11_isGuest wsX11_isGuest) := goodIn_app (goodIn_sub (sub_c (nq_m (n := 8) rfl) (sub_c (nq_m (n := 9) rfl) (sub_c (nq_m (n := 10) rfl) (sub_c (nq_m (n := 11) rfl) sub_n)))) (by decide +kernel)) ggX11_claim_X11_isGuest
set_option maxRecDepth 100000 in
theorem ggX11_claim_X11_in : GoodIn wsX11_claim wsX11_in := goodIn_sub (sub_c (nq_m (n := 16) rfl) sub_n) (by decide +kernel)
set_option maxRecDepth 100000 in
theorem gX11_claim_X11_in : GoodIn wsX11_claim (va_wsS RX11 126 yX11_in wsX11_in) := goodIn_app (goodIn_sub (sub_c (nq_m (n := 14) rfl) (sub_c (nq_m (n := 15) rfl) (sub_c (nq_m (n := 11) rfl) sub_n))) (by decide +kernel)) ggX11_claim_X11_in
set_option maxRecDepth 100000 in
theorem ggX11_claim_X11_hasClaim : GoodIn wsX11_claim wsX11_hasClaim := goodIn_sub (sub_c (nq_m (n := 20) rfl) (sub_c (nq_m (n := 4) rfl) (sub_c (nq_m (n := 5) rfl) (sub_c (nq_m (n := 21) rfl) (sub_c (nq_m (n := 22) rfl) (sub_c (nq_m (n := 23) rfl) (sub_c (nq_m (n := 24) rfl) (sub_c (nq_m (n := 25) rfl) (sub_c (nq_m (n := 26) rfl) (sub_c (nq_m (n := 27) rfl) (sub_c (nq_m (n := 28) rfl) (sub_c (nq_m (n := 29) rfl) (sub_c (nq_m (n := 30) rfl) (sub_c (nq_m (n := 31) rfl) (sub_c (nq_m (n := 32) rfl) (sub_c (nq_m (n := 33) rfl) (sub_c (nq_m (n := 34) rfl) (sub_c (nq_m (n := 35) rfl) (sub_c (nq_m (n := 36) rfl) (sub_c (nq_m (n := 37) rfl) (sub_c (nq_m (n := 38) rfl) (sub_c (nq_m (n := 39) rfl) (sub_c (nq_m (n := 40) rfl) (sub_c (nq_m (n := 41) rfl) (sub_c (nq_m (n := 42) rfl) (sub_c (nq_m (n := 43) rfl) (sub_c (nq_m (n := 44) rfl) (sub_c (nq_m (n := 45) rfl) (sub_c (nq_m (n := 46) rfl) (sub_c (nq_m (n := 47) rfl) (sub_c (nq_m (n := 48) rfl) (sub_c (nq_m (n := 49) rfl) (sub_c (nq_m (n := 50) rfl) (sub_c (nq_m (n := 51) rfl) (sub_c (nq_m (n := 52) rfl) (sub_c (nq_m (n := 53) rfl) (sub_c (nq_m (n := 54) rfl) (sub_c (nq_m (n := 55) rfl) (sub_c (nq_m (n := 56) rfl) (sub_c (nq_m (n := 57) rfl) (sub_c (nq_m (n := 58) rfl) (sub_c (nq_m (n := 59) rfl) (sub_c (nq_m (n := 60) rfl) (sub_c (nq_m (n := 61) rfl) (sub_c (nq_m (n := 62) rfl) (sub_c (nq_m (n := 63) rfl) (sub_c (nq_m (n := 64) rfl) (sub_c (nq_m (n := 65) rfl) (sub_c (nq_m (n := 66) rfl) (sub_c (nq_m (n := 67) rfl) (sub_c (nq_m (n := 68) rfl) (sub_c (nq_m (n := 69) rfl) (sub_c (nq_m (n := 70) rfl) (sub_c (nq_m (n := 71) rfl) (sub_c (nq_m (n := 72) rfl) (sub_c (nq_m (n := 73) rfl) (sub_c (nq_m (n := 74) rfl) (sub_c (nq_m (n := 75) rfl) (sub_c (nq_m (n := 76) rfl) (sub_c (nq_m (n := 77) rfl) (sub_c (nq_m (n := 78) rfl) sub_n))))))))))))))))))))))))))))))))))))))))))))))))))))))))))))) (by decide +kernel)
set_option maxRecDepth 100000 in
theorem gX11_claim_X11_hasClaim : GoodIn wsX11_claim (wsV RX11 289 RX11 yX11_hasClaim wsX11_hasClaim) := goodIn_app (goodIn_sub (sub_c (nq_m (n := 17) rfl) (sub_c (nq_m (n := 18) rfl) (sub_c (nq_m (n := 19) rfl) (sub_c (nq_m (n := 11) rfl) sub_n)))) (by decide +kernel)) ggX11_claim_X11_hasClaim
noncomputable def dX11_claim_0_l : List (Nat × Instr × Nat) := [(0, .aload_n 0, 1), (1, .iload_n 1, 1), (2, .invokevirtual 255, 3), (5, .ifCond .ne 7, 3), (8, .sipush (-1001), 3), (11, .ireturn, 1), (12, .iload_n 2, 1), (13, .i2l, 1), (14, .lconst 0, 1), (15, .ldc2_w 133, 3), (18, .invokestatic 126, 3), (21, .ifCond .eq 21, 3), (24, .iload_n 3, 1), (25, .i2l, 1), (26, .lconst 0, 1), (27, .ldc2_w 133, 3), (30, .invokestatic 126, 3), (33, .ifCond .eq 9, 3), (36, .iload_n 2, 1), (37, .iload_n 3, 1), (38, .iand, 1), (39, .ifCond .eq 7, 3), (42, .sipush (-1002), 3), (45, .ireturn, 1), (46, .aload_n 0, 1), (47, .getfield 56, 3), (50, .iload_n 1, 1), (51, .iaload, 1), (52, .ifCond .ge 20, 3), (55, .aload_n 0, 1), (56, .getfield 59, 3), (59, .iload_n 1, 1), (60, .iaload, 1), (61, .ifCond .ge 11, 3), (64, .aload_n 0, 1), (65, .iload_n 1, 1), (66, .invokevirtual 289, 3), (69, .ifCond .eq 7, 3), (72, .sipush (-1003), 3), (75, .ireturn, 1)]
set_option maxRecDepth 100000 in
theorem dX11_claim_0_g : dX11_claim_0_l.all (fun x => decide (decode cX11_claim x.1 = .ok x.2)) = true := by decide +kernel
theorem dX11_claim_0 : decode cX11_claim 0 = .ok (.aload_n 0, 1) := nq_d dX11_claim_0_g (n := 0) rfl
theorem dX11_claim_1 : decode cX11_claim 1 = .ok (.iload_n 1, 1) := nq_d dX11_claim_0_g (n := 1) rfl
theorem dX11_claim_2 : decode cX11_claim 2 = .ok (.invokevirtual 255, 3) := nq_d dX11_claim_0_g (n := 2) rfl
theorem dX11_claim_5 : decode cX11_claim 5 = .ok (.ifCond .ne 7, 3) := nq_d dX11_claim_0_g (n := 3) rfl
theorem dX11_claim_8 : decode cX11_claim 8 = .ok (.sipush (-1001), 3) := nq_d dX11_claim_0_g (n := 4) rfl
theorem dX11_claim_11 : decode cX11_claim 11 = .ok (.ireturn, 1) := nq_d dX11_claim_0_g (n := 5) rfl
theorem dX11_claim_12 : decode cX11_claim 12 = .ok (.iload_n 2, 1) := nq_d dX11_claim_0_g (n := 6) rfl
theorem dX11_claim_13 : decode cX11_claim 13 = .ok (.i2l, 1) := nq_d dX11_claim_0_g (n := 7) rfl
theorem dX11_claim_14 : decode cX11_claim 14 = .ok (.lconst 0, 1) := nq_d dX11_claim_0_g (n := 8) rfl
theorem dX11_claim_15 : decode cX11_claim 15 = .ok (.ldc2_w 133, 3) := nq_d dX11_claim_0_g (n := 9) rfl
theorem dX11_claim_18 : decode cX11_claim 18 = .ok (.invokestatic 126, 3) := nq_d dX11_claim_0_g (n := 10) rfl
theorem dX11_claim_21 : decode cX11_claim 21 = .ok (.ifCond .eq 21, 3) := nq_d dX11_claim_0_g (n := 11) rfl
theorem dX11_claim_24 : decode cX11_claim 24 = .ok (.iload_n 3, 1) := nq_d dX11_claim_0_g (n := 12) rfl
theorem dX11_claim_25 : decode cX11_claim 25 = .ok (.i2l, 1) := nq_d dX11_claim_0_g (n := 13) rfl
theorem dX11_claim_26 : decode cX11_claim 26 = .ok (.lconst 0, 1) := nq_d dX11_claim_0_g (n := 14) rfl
theorem dX11_claim_27 : decode cX11_claim 27 = .ok (.ldc2_w 133, 3) := nq_d dX11_claim_0_g (n := 15) rfl
theorem dX11_claim_30 : decode cX11_claim 30 = .ok (.invokestatic 126, 3) := nq_d dX11_claim_0_g (n := 16) rfl
theorem dX11_claim_33 : decode cX11_claim 33 = .ok (.ifCond .eq 9, 3) := nq_d dX11_claim_0_g (n := 17) rfl
theorem dX11_claim_36 : decode cX11_claim 36 = .ok (.iload_n 2, 1) := nq_d dX11_claim_0_g (n := 18) rfl
theorem dX11_claim_37 : decode cX11_claim 37 = .ok (.iload_n 3, 1) := nq_d dX11_claim_0_g (n := 19) rfl
theorem dX11_claim_38 : decode cX11_claim 38 = .ok (.iand, 1) := nq_d dX11_claim_0_g (n := 20) rfl
theorem dX11_claim_39 : decode cX11_claim 39 = .ok (.ifCond .eq 7, 3) := nq_d dX11_claim_0_g (n := 21) rfl
theorem dX11_claim_42 : decode cX11_claim 42 = .ok (.sipush (-1002), 3) := nq_d dX11_claim_0_g (n := 22) rfl
theorem dX11_claim_45 : decode cX11_claim 45 = .ok (.ireturn, 1) := nq_d dX11_claim_0_g (n := 23) rfl
theorem dX11_claim_46 : decode cX11_claim 46 = .ok (.aload_n 0, 1) := nq_d dX11_claim_0_g (n := 24) rfl
theorem dX11_claim_47 : decode cX11_claim 47 = .ok (.getfield 56, 3) := nq_d dX11_claim_0_g (n := 25) rfl
theorem dX11_claim_50 : decode cX11_claim 50 = .ok (.iload_n 1, 1) := nq_d dX11_claim_0_g (n := 26) rfl
theorem dX11_claim_51 : decode cX11_claim 51 = .ok (.iaload, 1) := nq_d dX11_claim_0_g (n := 27) rfl
theorem dX11_claim_52 : decode cX11_claim 52 = .ok (.ifCond .ge 20, 3) := nq_d dX11_claim_0_g (n := 28) rfl
theorem dX11_claim_55 : decode cX11_claim 55 = .ok (.aload_n 0, 1) := nq_d dX11_claim_0_g (n := 29) rfl
theorem dX11_claim_56 : decode cX11_claim 56 = .ok (.getfield 59, 3) := nq_d dX11_claim_0_g (n := 30) rfl
theorem dX11_claim_59 : decode cX11_claim 59 = .ok (.iload_n 1, 1) := nq_d dX11_claim_0_g (n := 31) rfl
theorem dX11_claim_60 : decode cX11_claim 60 = .ok (.iaload, 1) := nq_d dX11_claim_0_g (n := 32) rfl
theorem dX11_claim_61 : decode cX11_claim 61 = .ok (.ifCond .ge 11, 3) := nq_d dX11_claim_0_g (n := 33) rfl
theorem dX11_claim_64 : decode cX11_claim 64 = .ok (.aload_n 0, 1) := nq_d dX11_claim_0_g (n := 34) rfl
theorem dX11_claim_65 : decode cX11_claim 65 = .ok (.iload_n 1, 1) := nq_d dX11_claim_0_g (n := 35) rfl
theorem dX11_claim_66 : decode cX11_claim 66 = .ok (.invokevirtual 289, 3) := nq_d dX11_claim_0_g (n := 36) rfl
theorem dX11_claim_69 : decode cX11_claim 69 = .ok (.ifCond .eq 7, 3) := nq_d dX11_claim_0_g (n := 37) rfl
theorem dX11_claim_72 : decode cX11_claim 72 = .ok (.sipush (-1003), 3) := nq_d dX11_claim_0_g (n := 38) rfl
theorem dX11_claim_75 : decode cX11_claim 75 = .ok (.ireturn, 1) := nq_d dX11_claim_0_g (n := 39) rfl
noncomputable def dX11_claim_76_l : List (Nat × Instr × Nat) := [(76, .aload_n 0, 1), (77, .getfield 238, 3), (80, .bipush 6, 2), (82, .if_icmp .ne 7, 3), (85, .sipush (-1004), 3), (88, .ireturn, 1), (89, .aload_n 0, 1), (90, .getfield 99, 3), (93, .aload_n 0, 1), (94, .getfield 238, 3), (97, .iload_n 1, 1), (98, .iastore, 1), (99, .aload_n 0, 1), (100, .getfield 102, 3), (103, .aload_n 0, 1), (104, .getfield 238, 3), (107, .iload_n 2, 1), (108, .iastore, 1), (109, .aload_n 0, 1), (110, .getfield 105, 3), (113, .aload_n 0, 1), (114, .getfield 238, 3), (117, .iload_n 3, 1), (118, .iastore, 1), (119, .aload_n 0, 1), (120, .dup, 1), (121, .getfield 238, 3), (124, .iconst 1, 1), (125, .iadd, 1), (126, .putfield 238, 3), (129, .aload_n 0, 1), (130, .getfield 238, 3), (133, .iconst 1, 1), (134, .isub, 1), (135, .ireturn, 1)]
set_option maxRecDepth 100000 in
theorem dX11_claim_76_g : dX11_claim_76_l.all (fun x => decide (decode cX11_claim x.1 = .ok x.2)) = true := by decide +kernel
theorem dX11_claim_76 : decode cX11_claim 76 = .ok (.aload_n 0, 1) := nq_d dX11_claim_76_g (n := 0) rfl
theorem dX11_claim_77 : decode cX11_claim 77 = .ok (.getfield 238, 3) := nq_d dX11_claim_76_g (n := 1) rfl
theorem dX11_claim_80 : decode cX11_claim 80 = .ok (.bipush 6, 2) := nq_d dX11_claim_76_g (n := 2) rfl
theorem dX11_claim_82 : decode cX11_claim 82 = .ok (.if_icmp .ne 7, 3) := nq_d dX11_claim_76_g (n := 3) rfl
theorem dX11_claim_85 : decode cX11_claim 85 = .ok (.sipush (-1004), 3) := nq_d dX11_claim_76_g (n := 4) rfl
theorem dX11_claim_88 : decode cX11_claim 88 = .ok (.ireturn, 1) := nq_d dX11_claim_76_g (n := 5) rfl
theorem dX11_claim_89 : decode cX11_claim 89 = .ok (.aload_n 0, 1) := nq_d dX11_claim_76_g (n := 6) rfl
theorem dX11_claim_90 : decode cX11_claim 90 = .ok (.getfield 99, 3) := nq_d dX11_claim_76_g (n := 7) rfl
theorem dX11_claim_93 : decode cX11_claim 93 = .ok (.aload_n 0, 1) := nq_d dX11_claim_76_g (n := 8) rfl
theorem dX11_claim_94 : decode cX11_claim 94 = .ok (.getfield 238, 3) := nq_d dX11_claim_76_g (n := 9) rfl
theorem dX11_claim_97 : decode cX11_claim 97 = .ok (.iload_n 1, 1) := nq_d dX11_claim_76_g (n := 10) rfl
theorem dX11_claim_98 : decode cX11_claim 98 = .ok (.iastore, 1) := nq_d dX11_claim_76_g (n := 11) rfl
theorem dX11_claim_99 : decode cX11_claim 99 = .ok (.aload_n 0, 1) := nq_d dX11_claim_76_g (n := 12) rfl
theorem dX11_claim_100 : decode cX11_claim 100 = .ok (.getfield 102, 3) := nq_d dX11_claim_76_g (n := 13) rfl
theorem dX11_claim_103 : decode cX11_claim 103 = .ok (.aload_n 0, 1) := nq_d dX11_claim_76_g (n := 14) rfl
theorem dX11_claim_104 : decode cX11_claim 104 = .ok (.getfield 238, 3) := nq_d dX11_claim_76_g (n := 15) rfl
theorem dX11_claim_107 : decode cX11_claim 107 = .ok (.iload_n 2, 1) := nq_d dX11_claim_76_g (n := 16) rfl
theorem dX11_claim_108 : decode cX11_claim 108 = .ok (.iastore, 1) := nq_d dX11_claim_76_g (n := 17) rfl
theorem dX11_claim_109 : decode cX11_claim 109 = .ok (.aload_n 0, 1) := nq_d dX11_claim_76_g (n := 18) rfl
theorem dX11_claim_110 : decode cX11_claim 110 = .ok (.getfield 105, 3) := nq_d dX11_claim_76_g (n := 19) rfl
theorem dX11_claim_113 : decode cX11_claim 113 = .ok (.aload_n 0, 1) := nq_d dX11_claim_76_g (n := 20) rfl
theorem dX11_claim_114 : decode cX11_claim 114 = .ok (.getfield 238, 3) := nq_d dX11_claim_76_g (n := 21) rfl
theorem dX11_claim_117 : decode cX11_claim 117 = .ok (.iload_n 3, 1) := nq_d dX11_claim_76_g (n := 22) rfl
theorem dX11_claim_118 : decode cX11_claim 118 = .ok (.iastore, 1) := nq_d dX11_claim_76_g (n := 23) rfl
theorem dX11_claim_119 : decode cX11_claim 119 = .ok (.aload_n 0, 1) := nq_d dX11_claim_76_g (n := 24) rfl
theorem dX11_claim_120 : decode cX11_claim 120 = .ok (.dup, 1) := nq_d dX11_claim_76_g (n := 25) rfl
theorem dX11_claim_121 : decode cX11_claim 121 = .ok (.getfield 238, 3) := nq_d dX11_claim_76_g (n := 26) rfl
theorem dX11_claim_124 : decode cX11_claim 124 = .ok (.iconst 1, 1) := nq_d dX11_claim_76_g (n := 27) rfl
theorem dX11_claim_125 : decode cX11_claim 125 = .ok (.iadd, 1) := nq_d dX11_claim_76_g (n := 28) rfl
theorem dX11_claim_126 : decode cX11_claim 126 = .ok (.putfield 238, 3) := nq_d dX11_claim_76_g (n := 29) rfl
theorem dX11_claim_129 : decode cX11_claim 129 = .ok (.aload_n 0, 1) := nq_d dX11_claim_76_g (n := 30) rfl
theorem dX11_claim_130 : decode cX11_claim 130 = .ok (.getfield 238, 3) := nq_d dX11_claim_76_g (n := 31) rfl
theorem dX11_claim_133 : decode cX11_claim 133 = .ok (.iconst 1, 1) := nq_d dX11_claim_76_g (n := 32) rfl
theorem dX11_claim_134 : decode cX11_claim 134 = .ok (.isub, 1) := nq_d dX11_claim_76_g (n := 33) rfl
theorem dX11_claim_135 : decode cX11_claim 135 = .ok (.ireturn, 1) := nq_d dX11_claim_76_g (n := 34) rfl
noncomputable def dX11_fitting_0_l : List (Nat × Instr × Nat) := [(0, .iconst 0, 1), (1, .istore 4, 2), (3, .iconst 0, 1), (4, .istore 5, 2), (6, .iload 5, 2), (8, .aload_n 0, 1), (9, .getfield 221, 3), (12, .if_icmp .ge 93, 3), (15, .aload_n 0, 1), (16, .getfield 41, 3), (19, .iload 5, 2), (21, .iaload, 1), (22, .istore 6, 2), (24, .iload 6, 2), (26, .ifCond .lt 18, 3), (29, .aload_n 0, 1), (30, .getfield 7, 3), (33, .iload 5, 2), (35, .iaload, 1), (36, .iload_n 1, 1), (37, .if_icmp .ne 7, 3), (40, .iconst 1, 1), (41, .goto 4, 3), (44, .iconst 0, 1), (45, .istore 7, 2), (47, .iload 7, 2), (49, .ifCond .eq 13, 3), (52, .aload_n 0, 1), (53, .getfield 53, 3), (56, .iload 6, 2), (58, .iaload, 1), (59, .goto 4, 3), (62, .iconst 0, 1), (63, .istore 8, 2), (65, .iload 4, 2), (67, .iload 7, 2), (69, .ifCond .eq 26, 3), (72, .iload_n 2, 1), (73, .iload 8, 2), (75, .iconst (-1), 1)]
set_option maxRecDepth 100000 in
theorem dX11_fitting_0_g : dX11_fitting_0_l.all (fun x => decide (decode cX11_fitting x.1 = .ok x.2)) = true := by decide +kernel
theorem dX11_fitting_0 : decode cX11_fitting 0 = .ok (.iconst 0, 1) := nq_d dX11_fitting_0_g (n := 0) rfl
theorem dX11_fitting_1 : decode cX11_fitting 1 = .ok (.istore 4, 2) := nq_d dX11_fitting_0_g (n := 1) rfl
theorem dX11_fitting_3 : decode cX11_fitting 3 = .ok (.iconst 0, 1) := nq_d dX11_fitting_0_g (n := 2) rfl
theorem dX11_fitting_4 : decode cX11_fitting 4 = .ok (.istore 5, 2) := nq_d dX11_fitting_0_g (n := 3) rfl
theorem dX11_fitting_6 : decode cX11_fitting 6 = .ok (.iload 5, 2) := nq_d dX11_fitting_0_g (n := 4) rfl
theorem dX11_fitting_8 : decode cX11_fitting 8 = .ok (.aload_n 0, 1) := nq_d dX11_fitting_0_g (n := 5) rfl
theorem dX11_fitting_9 : decode cX11_fitting 9 = .ok (.getfield 221, 3) := nq_d dX11_fitting_0_g (n := 6) rfl
theorem dX11_fitting_12 : decode cX11_fitting 12 = .ok (.if_icmp .ge 93, 3) := nq_d dX11_fitting_0_g (n := 7) rfl
theorem dX11_fitting_15 : decode cX11_fitting 15 = .ok (.aload_n 0, 1) := nq_d dX11_fitting_0_g (n := 8) rfl
theorem dX11_fitting_16 : decode cX11_fitting 16 = .ok (.getfield 41, 3) := nq_d dX11_fitting_0_g (n := 9) rfl
theorem dX11_fitting_19 : decode cX11_fitting 19 = .ok (.iload 5, 2) := nq_d dX11_fitting_0_g (n := 10) rfl
theorem dX11_fitting_21 : decode cX11_fitting 21 = .ok (.iaload, 1) := nq_d dX11_fitting_0_g (n := 11) rfl
theorem dX11_fitting_22 : decode cX11_fitting 22 = .ok (.istore 6, 2) := nq_d dX11_fitting_0_g (n := 12) rfl
theorem dX11_fitting_24 : decode cX11_fitting 24 = .ok (.iload 6, 2) := nq_d dX11_fitting_0_g (n := 13) rfl
theorem dX11_fitting_26 : decode cX11_fitting 26 = .ok (.ifCond .lt 18, 3) := nq_d dX11_fitting_0_g (n := 14) rfl
theorem dX11_fitting_29 : decode cX11_fitting 29 = .ok (.aload_n 0, 1) := nq_d dX11_fitting_0_g (n := 15) rfl
theorem dX11_fitting_30 : decode cX11_fitting 30 = .ok (.getfield 7, 3) := nq_d dX11_fitting_0_g (n := 16) rfl
theorem dX11_fitting_33 : decode cX11_fitting 33 = .ok (.iload 5, 2) := nq_d dX11_fitting_0_g (n := 17) rfl
theorem dX11_fitting_35 : decode cX11_fitting 35 = .ok (.iaload, 1) := nq_d dX11_fitting_0_g (n := 18) rfl
theorem dX11_fitting_36 : decode cX11_fitting 36 = .ok (.iload_n 1, 1) := nq_d dX11_fitting_0_g (n := 19) rfl
theorem dX11_fitting_37 : decode cX11_fitting 37 = .ok (.if_icmp .ne 7, 3) := nq_d dX11_fitting_0_g (n := 20) rfl
theorem dX11_fitting_40 : decode cX11_fitting 40 = .ok (.iconst 1, 1) := nq_d dX11_fitting_0_g (n := 21) rfl
theorem dX11_fitting_41 : decode cX11_fitting 41 = .ok (.goto 4, 3) := nq_d dX11_fitting_0_g (n := 22) rfl
theorem dX11_fitting_44 : decode cX11_fitting 44 = .ok (.iconst 0, 1) := nq_d dX11_fitting_0_g (n := 23) rfl
theorem dX11_fitting_45 : decode cX11_fitting 45 = .ok (.istore 7, 2) := nq_d dX11_fitting_0_g (n := 24) rfl
theorem dX11_fitting_47 : decode cX11_fitting 47 = .ok (.iload 7, 2) := nq_d dX11_fitting_0_g (n := 25) rfl
theorem dX11_fitting_49 : decode cX11_fitting 49 = .ok (.ifCond .eq 13, 3) := nq_d dX11_fitting_0_g (n := 26) rfl
theorem dX11_fitting_52 : decode cX11_fitting 52 = .ok (.aload_n 0, 1) := nq_d dX11_fitting_0_g (n := 27) rfl
theorem dX11_fitting_53 : decode cX11_fitting 53 = .ok (.getfield 53, 3) := nq_d dX11_fitting_0_g (n := 28) rfl
theorem dX11_fitting_56 : decode cX11_fitting 56 = .ok (.iload 6, 2) := nq_d dX11_fitting_0_g (n := 29) rfl
theorem dX11_fitting_58 : decode cX11_fitting 58 = .ok (.iaload, 1) := nq_d dX11_fitting_0_g (n := 30) rfl
theorem dX11_fitting_59 : decode cX11_fitting 59 = .ok (.goto 4, 3) := nq_d dX11_fitting_0_g (n := 31) rfl
theorem dX11_fitting_62 : decode cX11_fitting 62 = .ok (.iconst 0, 1) := nq_d dX11_fitting_0_g (n := 32) rfl
theorem dX11_fitting_63 : decode cX11_fitting 63 = .ok (.istore 8, 2) := nq_d dX11_fitting_0_g (n := 33) rfl
theorem dX11_fitting_65 : decode cX11_fitting 65 = .ok (.iload 4, 2) := nq_d dX11_fitting_0_g (n := 34) rfl
theorem dX11_fitting_67 : decode cX11_fitting 67 = .ok (.iload 7, 2) := nq_d dX11_fitting_0_g (n := 35) rfl
theorem dX11_fitting_69 : decode cX11_fitting 69 = .ok (.ifCond .eq 26, 3) := nq_d dX11_fitting_0_g (n := 36) rfl
theorem dX11_fitting_72 : decode cX11_fitting 72 = .ok (.iload_n 2, 1) := nq_d dX11_fitting_0_g (n := 37) rfl
theorem dX11_fitting_73 : decode cX11_fitting 73 = .ok (.iload 8, 2) := nq_d dX11_fitting_0_g (n := 38) rfl
theorem dX11_fitting_75 : decode cX11_fitting 75 = .ok (.iconst (-1), 1) := nq_d dX11_fitting_0_g (n := 39) rfl
noncomputable def dX11_fitting_76_l : List (Nat × Instr × Nat) := [(76, .ixor, 1), (77, .iand, 1), (78, .ifCond .ne 17, 3), (81, .iload_n 3, 1), (82, .iload 8, 2), (84, .iand, 1), (85, .ifCond .ne 10, 3), (88, .iconst 1, 1), (89, .iload 6, 2), (91, .ishl, 1), (92, .goto 4, 3), (95, .iconst 0, 1), (96, .ior, 1), (97, .istore 4, 2), (99, .iinc 5 1, 3), (102, .goto (-96), 3), (105, .iload 4, 2), (107, .ireturn, 1)]
set_option maxRecDepth 100000 in
theorem dX11_fitting_76_g : dX11_fitting_76_l.all (fun x => decide (decode cX11_fitting x.1 = .ok x.2)) = true := by decide +kernel
theorem dX11_fitting_76 : decode cX11_fitting 76 = .ok (.ixor, 1) := nq_d dX11_fitting_76_g (n := 0) rfl
theorem dX11_fitting_77 : decode cX11_fitting 77 = .ok (.iand, 1) := nq_d dX11_fitting_76_g (n := 1) rfl
theorem dX11_fitting_78 : decode cX11_fitting 78 = .ok (.ifCond .ne 17, 3) := nq_d dX11_fitting_76_g (n := 2) rfl
theorem dX11_fitting_81 : decode cX11_fitting 81 = .ok (.iload_n 3, 1) := nq_d dX11_fitting_76_g (n := 3) rfl
