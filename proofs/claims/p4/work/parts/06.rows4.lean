theorem dX10_told_113 : decode cX10_told 113 = .ok (.ireturn, 1) := nq_d dX10_told_112_g (n := 1) rfl
theorem dX10_told_114 : decode cX10_told 114 = .ok (.aload_n 3, 1) := nq_d dX10_told_112_g (n := 2) rfl
theorem dX10_told_115 : decode cX10_told 115 = .ok (.iload_n 1, 1) := nq_d dX10_told_112_g (n := 3) rfl
theorem dX10_told_116 : decode cX10_told 116 = .ok (.invokevirtual 177, 3) := nq_d dX10_told_112_g (n := 4) rfl
theorem dX10_told_119 : decode cX10_told 119 = .ok (.ireturn, 1) := nq_d dX10_told_112_g (n := 5) rfl
theorem dX10_told_120 : decode cX10_told 120 = .ok (.aload_n 3, 1) := nq_d dX10_told_112_g (n := 6) rfl
theorem dX10_told_121 : decode cX10_told 121 = .ok (.getfield 180, 3) := nq_d dX10_told_112_g (n := 7) rfl
theorem dX10_told_124 : decode cX10_told 124 = .ok (.iload_n 1, 1) := nq_d dX10_told_112_g (n := 8) rfl
theorem dX10_told_125 : decode cX10_told 125 = .ok (.iaload, 1) := nq_d dX10_told_112_g (n := 9) rfl
theorem dX10_told_126 : decode cX10_told 126 = .ok (.ireturn, 1) := nq_d dX10_told_112_g (n := 10) rfl
theorem dX10_told_127 : decode cX10_told 127 = .ok (.aload_n 0, 1) := nq_d dX10_told_112_g (n := 11) rfl
theorem dX10_told_128 : decode cX10_told 128 = .ok (.iload_n 1, 1) := nq_d dX10_told_112_g (n := 12) rfl
theorem dX10_told_129 : decode cX10_told 129 = .ok (.invokevirtual 183, 3) := nq_d dX10_told_112_g (n := 13) rfl
theorem dX10_told_132 : decode cX10_told 132 = .ok (.ireturn, 1) := nq_d dX10_told_112_g (n := 14) rfl
theorem dX10_told_133 : decode cX10_told 133 = .ok (.sipush (-1002), 3) := nq_d dX10_told_112_g (n := 15) rfl
theorem dX10_told_136 : decode cX10_told 136 = .ok (.ireturn, 1) := nq_d dX10_told_112_g (n := 16) rfl
set_option maxRecDepth 100000 in
theorem ggX10_plan_X2_knows : GoodIn wsX10_plan wsX2_knows := goodIn_sub (sub_c (nq_m (n := 12) rfl) (sub_c (nq_m (n := 13) rfl) (sub_c (nq_m (n := 108) rfl) (sub_c (nq_m (n := 109) rfl) (sub_c (nq_m (n := 110) rfl) (sub_c (nq_m (n := 111) rfl) (sub_c (nq_m (n := 112) rfl) (sub_c (nq_m (n := 113) rfl) (sub_c (nq_m (n := 114) rfl) (sub_c (nq_m (n := 115) rfl) sub_n)))))))))) (by decide +kernel)
set_option maxRecDepth 100000 in
theorem gX10_plan_X2_knows : GoodIn wsX10_plan (wsV RX10 158 RX2 yX2_knows wsX2_knows) := goodIn_app (goodIn_sub (sub_c (nq_m (n := 8) rfl) (sub_c (nq_m (n := 9) rfl) (sub_c (nq_m (n := 10) rfl) (sub_c (nq_m (n := 11) rfl) sub_n)))) (by decide +kernel)) ggX10_plan_X2_knows
set_option maxRecDepth 100000 in
theorem ggX10_plan_X10_expectedOf : GoodIn wsX10_plan wsX10_expectedOf := goodIn_sub (sub_c (nq_m (n := 18) rfl) (sub_c (nq_m (n := 1) rfl) (sub_c (nq_m (n := 2) rfl) (sub_c (nq_m (n := 19) rfl) (sub_c (nq_m (n := 6) rfl) (sub_c (nq_m (n := 8) rfl) (sub_c (nq_m (n := 9) rfl) (sub_c (nq_m (n := 10) rfl) (sub_c (nq_m (n := 11) rfl) (sub_c (nq_m (n := 12) rfl) (sub_c (nq_m (n := 13) rfl) (sub_c (nq_m (n := 20) rfl) (sub_c (nq_m (n := 21) rfl) (sub_c (nq_m (n := 22) rfl) (sub_c (nq_m (n := 17) rfl) (sub_c (nq_m (n := 23) rfl) (sub_c (nq_m (n := 24) rfl) (sub_c (nq_m (n := 25) rfl) (sub_c (nq_m (n := 26) rfl) (sub_c (nq_m (n := 27) rfl) (sub_c (nq_m (n := 28) rfl) (sub_c (nq_m (n := 29) rfl) (sub_c (nq_m (n := 30) rfl) (sub_c (nq_m (n := 31) rfl) (sub_c (nq_m (n := 32) rfl) (sub_c (nq_m (n := 33) rfl) (sub_c (nq_m (n := 34) rfl) (sub_c (nq_m (n := 35) rfl) (sub_c (nq_m (n := 36) rfl) (sub_c (nq_m (n := 37) rfl) (sub_c (nq_m (n := 38) rfl) (sub_c (nq_m (n := 39) rfl) (sub_c (nq_m (n := 40) rfl) (sub_c (nq_m (n := 41) rfl) (sub_c (nq_m (n := 42) rfl) (sub_c (nq_m (n := 43) rfl) (sub_c (nq_m (n := 44) rfl) (sub_c (nq_m (n := 45) rfl) (sub_c (nq_m (n := 93) rfl) (sub_c (nq_m (n := 94) rfl) (sub_c (nq_m (n := 95) rfl) (sub_c (nq_m (n := 96) rfl) (sub_c (nq_m (n := 97) rfl) (sub_c (nq_m (n := 98) rfl) (sub_c (nq_m (n := 99) rfl) (sub_c (nq_m (n := 100) rfl) (sub_c (nq_m (n := 101) rfl) (sub_c (nq_m (n := 102) rfl) (sub_c (nq_m (n := 103) rfl) (sub_c (nq_m (n := 104) rfl) (sub_c (nq_m (n := 105) rfl) (sub_c (nq_m (n := 106) rfl) (sub_c (nq_m (n := 107) rfl) (sub_c (nq_m (n := 108) rfl) (sub_c (nq_m (n := 109) rfl) (sub_c (nq_m (n := 110) rfl) (sub_c (nq_m (n := 111) rfl) (sub_c (nq_m (n := 112) rfl) (sub_c (nq_m (n := 113) rfl) (sub_c (nq_m (n := 114) rfl) (sub_c (nq_m (n := 115) rfl) (sub_c (nq_m (n := 120) rfl) (sub_c (nq_m (n := 121) rfl) (sub_c (nq_m (n := 122) rfl) (sub_c (nq_m (n := 123) rfl) (sub_c (nq_m (n := 124) rfl) (sub_c (nq_m (n := 125) rfl) (sub_c (nq_m (n := 126) rfl) (sub_c (nq_m (n := 127) rfl) (sub_c (nq_m (n := 128) rfl) sub_n)))))))))))))))))))))))))))))))))))))))))))))))))))))))))))))))))))))) (by decide +kernel)
set_option maxRecDepth 100000 in
theorem gX10_plan_X10_expectedOf : GoodIn wsX10_plan (wsV RX10 183 RX10 yX10_expectedOf wsX10_expectedOf) := goodIn_app (goodIn_sub (sub_c (nq_m (n := 14) rfl) (sub_c (nq_m (n := 15) rfl) (sub_c (nq_m (n := 16) rfl) (sub_c (nq_m (n := 17) rfl) sub_n)))) (by decide +kernel)) ggX10_plan_X10_expectedOf
set_option maxRecDepth 100000 in
theorem ggX10_plan_X7_make : GoodIn wsX10_plan wsX7_make := goodIn_sub (sub_c (nq_m (n := 50) rfl) (sub_c (nq_m (n := 51) rfl) (sub_c (nq_m (n := 52) rfl) (sub_c (nq_m (n := 53) rfl) (sub_c (nq_m (n := 54) rfl) (sub_c (nq_m (n := 55) rfl) (sub_c (nq_m (n := 56) rfl) (sub_c (nq_m (n := 57) rfl) (sub_c (nq_m (n := 58) rfl) (sub_c (nq_m (n := 49) rfl) (sub_c (nq_m (n := 59) rfl) (sub_c (nq_m (n := 60) rfl) (sub_c (nq_m (n := 61) rfl) (sub_c (nq_m (n := 62) rfl) (sub_c (nq_m (n := 11) rfl) (sub_c (nq_m (n := 63) rfl) (sub_c (nq_m (n := 64) rfl) (sub_c (nq_m (n := 65) rfl) (sub_c (nq_m (n := 9) rfl) (sub_c (nq_m (n := 10) rfl) (sub_c (nq_m (n := 12) rfl) (sub_c (nq_m (n := 13) rfl) (sub_c (nq_m (n := 66) rfl) (sub_c (nq_m (n := 67) rfl) (sub_c (nq_m (n := 68) rfl) (sub_c (nq_m (n := 69) rfl) (sub_c (nq_m (n := 70) rfl) (sub_c (nq_m (n := 71) rfl) (sub_c (nq_m (n := 72) rfl) (sub_c (nq_m (n := 73) rfl) (sub_c (nq_m (n := 74) rfl) (sub_c (nq_m (n := 30) rfl) (sub_c (nq_m (n := 75) rfl) (sub_c (nq_m (n := 76) rfl) (sub_c (nq_m (n := 77) rfl) (sub_c (nq_m (n := 78) rfl) (sub_c (nq_m (n := 79) rfl) (sub_c (nq_m (n := 80) rfl) (sub_c (nq_m (n := 81) rfl) (sub_c (nq_m (n := 82) rfl) (sub_c (nq_m (n := 83) rfl) (sub_c (nq_m (n := 84) rfl) (sub_c (nq_m (n := 85) rfl) (sub_c (nq_m (n := 86) rfl) (sub_c (nq_m (n := 87) rfl) (sub_c (nq_m (n := 88) rfl) (sub_c (nq_m (n := 116) rfl) (sub_c (nq_m (n := 117) rfl) (sub_c (nq_m (n := 118) rfl) (sub_c (nq_m (n := 119) rfl) (sub_c (nq_m (n := 108) rfl) (sub_c (nq_m (n := 109) rfl) (sub_c (nq_m (n := 110) rfl) (sub_c (nq_m (n := 111) rfl) (sub_c (nq_m (n := 112) rfl) (sub_c (nq_m (n := 113) rfl) (sub_c (nq_m (n := 114) rfl) (sub_c (nq_m (n := 115) rfl) (sub_c (nq_m (n := 120) rfl) (sub_c (nq_m (n := 121) rfl) (sub_c (nq_m (n := 122) rfl) (sub_c (nq_m (n := 123) rfl) (sub_c (nq_m (n := 124) rfl) (sub_c (nq_m (n := 125) rfl) (sub_c (nq_m (n := 126) rfl) sub_n))))))))))))))))))))))))))))))))))))))))))))))))))))))))))))))))) (by decide +kernel)
set_option maxRecDepth 100000 in
theorem gX10_plan_X7_make : GoodIn wsX10_plan (wsV RX10 189 RX7 yX7_make wsX7_make) := goodIn_app (goodIn_sub (sub_c (nq_m (n := 46) rfl) (sub_c (nq_m (n := 47) rfl) (sub_c (nq_m (n := 48) rfl) (sub_c (nq_m (n := 49) rfl) sub_n)))) (by decide +kernel)) ggX10_plan_X7_make
set_option maxRecDepth 100000 in
theorem ggX10_plan_X7_pegOf : GoodIn wsX10_plan wsX7_pegOf := goodIn_sub (sub_c (nq_m (n := 92) rfl) (sub_c (nq_m (n := 53) rfl) (sub_c (nq_m (n := 33) rfl) (sub_c (nq_m (n := 17) rfl) (sub_c (nq_m (n := 34) rfl) (sub_c (nq_m (n := 116) rfl) (sub_c (nq_m (n := 117) rfl) (sub_c (nq_m (n := 118) rfl) (sub_c (nq_m (n := 119) rfl) sub_n))))))))) (by decide +kernel)
set_option maxRecDepth 100000 in
theorem gX10_plan_X7_pegOf : GoodIn wsX10_plan (wsV RX10 196 RX7 yX7_pegOf wsX7_pegOf) := goodIn_app (goodIn_sub (sub_c (nq_m (n := 89) rfl) (sub_c (nq_m (n := 90) rfl) (sub_c (nq_m (n := 91) rfl) (sub_c (nq_m (n := 49) rfl) sub_n)))) (by decide +kernel)) ggX10_plan_X7_pegOf
noncomputable def dX10_plan_0_l : List (Nat × Instr × Nat) := [(0, .iload_n 2, 1), (1, .iconst (-1), 1), (2, .if_icmp .eq 21, 3), (5, .aload_n 0, 1), (6, .getfield 26, 3), (9, .getfield 116, 3), (12, .iload_n 2, 1), (13, .invokevirtual 158, 3), (16, .ifCond .ne 7, 3), (19, .sipush (-1001), 3), (22, .ireturn, 1), (23, .iconst 0, 1), (24, .istore_n 3, 1), (25, .iload_n 3, 1), (26, .aload_n 0, 1), (27, .getfield 26, 3), (30, .getfield 116, 3), (33, .getfield 130, 3), (36, .if_icmp .ge 23, 3), (39, .aload_n 0, 1), (40, .getfield 39, 3), (43, .getfield 186, 3), (46, .iload_n 3, 1), (47, .aload_n 0, 1), (48, .iload_n 3, 1), (49, .invokevirtual 183, 3), (52, .iastore, 1), (53, .iinc 3 1, 3), (56, .goto (-31), 3), (59, .aload_n 0, 1), (60, .getfield 39, 3), (63, .iload_n 1, 1), (64, .aload_n 0, 1), (65, .getfield 26, 3), (68, .getfield 116, 3), (71, .aload_n 0, 1), (72, .getfield 10, 3), (75, .invokevirtual 189, 3), (78, .ifCond .ne 5, 3), (81, .iconst (-1), 1)]
set_option maxRecDepth 100000 in
theorem dX10_plan_0_g : dX10_plan_0_l.all (fun x => decide (decode cX10_plan x.1 = .ok x.2)) = true := by decide +kernel
theorem dX10_plan_0 : decode cX10_plan 0 = .ok (.iload_n 2, 1) := nq_d dX10_plan_0_g (n := 0) rfl
theorem dX10_plan_1 : decode cX10_plan 1 = .ok (.iconst (-1), 1) := nq_d dX10_plan_0_g (n := 1) rfl
theorem dX10_plan_2 : decode cX10_plan 2 = .ok (.if_icmp .eq 21, 3) := nq_d dX10_plan_0_g (n := 2) rfl
theorem dX10_plan_5 : decode cX10_plan 5 = .ok (.aload_n 0, 1) := nq_d dX10_plan_0_g (n := 3) rfl
theorem dX10_plan_6 : decode cX10_plan 6 = .ok (.getfield 26, 3) := nq_d dX10_plan_0_g (n := 4) rfl
theorem dX10_plan_9 : decode cX10_plan 9 = .ok (.getfield 116, 3) := nq_d dX10_plan_0_g (n := 5) rfl
theorem dX10_plan_12 : decode cX10_plan 12 = .ok (.iload_n 2, 1) := nq_d dX10_plan_0_g (n := 6) rfl
theorem dX10_plan_13 : decode cX10_plan 13 = .ok (.invokevirtual 158, 3) := nq_d dX10_plan_0_g (n := 7) rfl
theorem dX10_plan_16 : decode cX10_plan 16 = .ok (.ifCond .ne 7, 3) := nq_d dX10_plan_0_g (n := 8) rfl
theorem dX10_plan_19 : decode cX10_plan 19 = .ok (.sipush (-1001), 3) := nq_d dX10_plan_0_g (n := 9) rfl
theorem dX10_plan_22 : decode cX10_plan 22 = .ok (.ireturn, 1) := nq_d dX10_plan_0_g (n := 10) rfl
theorem dX10_plan_23 : decode cX10_plan 23 = .ok (.iconst 0, 1) := nq_d dX10_plan_0_g (n := 11) rfl
theorem dX10_plan_24 : decode cX10_plan 24 = .ok (.istore_n 3, 1) := nq_d dX10_plan_0_g (n := 12) rfl
theorem dX10_plan_25 : decode cX10_plan 25 = .ok (.iload_n 3, 1) := nq_d dX10_plan_0_g (n := 13) rfl
theorem dX10_plan_26 : decode cX10_plan 26 = .ok (.aload_n 0, 1) := nq_d dX10_plan_0_g (n := 14) rfl
theorem dX10_plan_27 : decode cX10_plan 27 = .ok (.getfield 26, 3) := nq_d dX10_plan_0_g (n := 15) rfl
theorem dX10_plan_30 : decode cX10_plan 30 = .ok (.getfield 116, 3) := nq_d dX10_plan_0_g (n := 16) rfl
theorem dX10_plan_33 : decode cX10_plan 33 = .ok (.getfield 130, 3) := nq_d dX10_plan_0_g (n := 17) rfl
theorem dX10_plan_36 : decode cX10_plan 36 = .ok (.if_icmp .ge 23, 3) := nq_d dX10_plan_0_g (n := 18) rfl
theorem dX10_plan_39 : decode cX10_plan 39 = .ok (.aload_n 0, 1) := nq_d dX10_plan_0_g (n := 19) rfl
theorem dX10_plan_40 : decode cX10_plan 40 = .ok (.getfield 39, 3) := nq_d dX10_plan_0_g (n := 20) rfl
theorem dX10_plan_43 : decode cX10_plan 43 = .ok (.getfield 186, 3) := nq_d dX10_plan_0_g (n := 21) rfl
theorem dX10_plan_46 : decode cX10_plan 46 = .ok (.iload_n 3, 1) := nq_d dX10_plan_0_g (n := 22) rfl
theorem dX10_plan_47 : decode cX10_plan 47 = .ok (.aload_n 0, 1) := nq_d dX10_plan_0_g (n := 23) rfl
theorem dX10_plan_48 : decode cX10_plan 48 = .ok (.iload_n 3, 1) := nq_d dX10_plan_0_g (n := 24) rfl
theorem dX10_plan_49 : decode cX10_plan 49 = .ok (.invokevirtual 183, 3) := nq_d dX10_plan_0_g (n := 25) rfl
theorem dX10_plan_52 : decode cX10_plan 52 = .ok (.iastore, 1) := nq_d dX10_plan_0_g (n := 26) rfl
theorem dX10_plan_53 : decode cX10_plan 53 = .ok (.iinc 3 1, 3) := nq_d dX10_plan_0_g (n := 27) rfl
theorem dX10_plan_56 : decode cX10_plan 56 = .ok (.goto (-31), 3) := nq_d dX10_plan_0_g (n := 28) rfl
theorem dX10_plan_59 : decode cX10_plan 59 = .ok (.aload_n 0, 1) := nq_d dX10_plan_0_g (n := 29) rfl
theorem dX10_plan_60 : decode cX10_plan 60 = .ok (.getfield 39, 3) := nq_d dX10_plan_0_g (n := 30) rfl
theorem dX10_plan_63 : decode cX10_plan 63 = .ok (.iload_n 1, 1) := nq_d dX10_plan_0_g (n := 31) rfl
theorem dX10_plan_64 : decode cX10_plan 64 = .ok (.aload_n 0, 1) := nq_d dX10_plan_0_g (n := 32) rfl
theorem dX10_plan_65 : decode cX10_plan 65 = .ok (.getfield 26, 3) := nq_d dX10_plan_0_g (n := 33) rfl
theorem dX10_plan_68 : decode cX10_plan 68 = .ok (.getfield 116, 3) := nq_d dX10_plan_0_g (n := 34) rfl
theorem dX10_plan_71 : decode cX10_plan 71 = .ok (.aload_n 0, 1) := nq_d dX10_plan_0_g (n := 35) rfl
theorem dX10_plan_72 : decode cX10_plan 72 = .ok (.getfield 10, 3) := nq_d dX10_plan_0_g (n := 36) rfl
theorem dX10_plan_75 : decode cX10_plan 75 = .ok (.invokevirtual 189, 3) := nq_d dX10_plan_0_g (n := 37) rfl
theorem dX10_plan_78 : decode cX10_plan 78 = .ok (.ifCond .ne 5, 3) := nq_d dX10_plan_0_g (n := 38) rfl
theorem dX10_plan_81 : decode cX10_plan 81 = .ok (.iconst (-1), 1) := nq_d dX10_plan_0_g (n := 39) rfl
noncomputable def dX10_plan_82_l : List (Nat × Instr × Nat) := [(82, .ireturn, 1), (83, .iload_n 2, 1), (84, .iconst (-1), 1), (85, .if_icmp .ne 13, 3), (88, .aload_n 0, 1), (89, .getfield 39, 3), (92, .getfield 193, 3), (95, .goto 11, 3), (98, .aload_n 0, 1), (99, .getfield 39, 3), (102, .iload_n 2, 1), (103, .invokevirtual 196, 3), (106, .ireturn, 1)]
set_option maxRecDepth 100000 in
theorem dX10_plan_82_g : dX10_plan_82_l.all (fun x => decide (decode cX10_plan x.1 = .ok x.2)) = true := by decide +kernel
theorem dX10_plan_82 : decode cX10_plan 82 = .ok (.ireturn, 1) := nq_d dX10_plan_82_g (n := 0) rfl
theorem dX10_plan_83 : decode cX10_plan 83 = .ok (.iload_n 2, 1) := nq_d dX10_plan_82_g (n := 1) rfl
theorem dX10_plan_84 : decode cX10_plan 84 = .ok (.iconst (-1), 1) := nq_d dX10_plan_82_g (n := 2) rfl
theorem dX10_plan_85 : decode cX10_plan 85 = .ok (.if_icmp .ne 13, 3) := nq_d dX10_plan_82_g (n := 3) rfl
theorem dX10_plan_88 : decode cX10_plan 88 = .ok (.aload_n 0, 1) := nq_d dX10_plan_82_g (n := 4) rfl
theorem dX10_plan_89 : decode cX10_plan 89 = .ok (.getfield 39, 3) := nq_d dX10_plan_82_g (n := 5) rfl
theorem dX10_plan_92 : decode cX10_plan 92 = .ok (.getfield 193, 3) := nq_d dX10_plan_82_g (n := 6) rfl
theorem dX10_plan_95 : decode cX10_plan 95 = .ok (.goto 11, 3) := nq_d dX10_plan_82_g (n := 7) rfl
theorem dX10_plan_98 : decode cX10_plan 98 = .ok (.aload_n 0, 1) := nq_d dX10_plan_82_g (n := 8) rfl
theorem dX10_plan_99 : decode cX10_plan 99 = .ok (.getfield 39, 3) := nq_d dX10_plan_82_g (n := 9) rfl
theorem dX10_plan_102 : decode cX10_plan 102 = .ok (.iload_n 2, 1) := nq_d dX10_plan_82_g (n := 10) rfl
theorem dX10_plan_103 : decode cX10_plan 103 = .ok (.invokevirtual 196, 3) := nq_d dX10_plan_82_g (n := 11) rfl
theorem dX10_plan_106 : decode cX10_plan 106 = .ok (.ireturn, 1) := nq_d dX10_plan_82_g (n := 12) rfl
set_option maxRecDepth 100000 in
theorem ggX10_night_X10_within : GoodIn wsX10_night wsX10_within := goodIn_sub (sub_c (nq_m (n := 7) rfl) sub_n) (by decide +kernel)
set_option maxRecDepth 100000 in
theorem gX10_night_X10_within : GoodIn wsX10_night (va_wsS RX10 67 yX10_within wsX10_within) := goodIn_app (goodIn_sub (sub_c (nq_m (n := 4) rfl) (sub_c (nq_m (n := 5) rfl) (sub_c (nq_m (n := 6) rfl) sub_n))) (by decide +kernel)) ggX10_night_X10_within
set_option maxRecDepth 100000 in
theorem ggX10_night_X6_add : GoodIn wsX10_night wsX6_add := goodIn_sub (sub_c (nq_m (n := 12) rfl) (sub_c (nq_m (n := 13) rfl) (sub_c (nq_m (n := 14) rfl) (sub_c (nq_m (n := 5) rfl) (sub_c (nq_m (n := 6) rfl) (sub_c (nq_m (n := 7) rfl) (sub_c (nq_m (n := 30) rfl) (sub_c (nq_m (n := 31) rfl) sub_n)))))))) (by decide +kernel)
set_option maxRecDepth 100000 in
theorem gX10_night_X6_add : GoodIn wsX10_night (wsV RX10 199 RX6 yX6_add wsX6_add) := goodIn_app (goodIn_sub (sub_c (nq_m (n := 8) rfl) (sub_c (nq_m (n := 9) rfl) (sub_c (nq_m (n := 10) rfl) (sub_c (nq_m (n := 11) rfl) sub_n)))) (by decide +kernel)) ggX10_night_X6_add
noncomputable def dX10_night_0_l : List (Nat × Instr × Nat) := [(0, .iload_n 1, 1), (1, .iconst 0, 1), (2, .iconst 3, 1), (3, .invokestatic 67, 3), (6, .ifCond .eq 12, 3), (9, .iload_n 2, 1), (10, .iconst 0, 1), (11, .iconst 1, 1), (12, .invokestatic 67, 3), (15, .ifCond .ne 7, 3), (18, .sipush (-1002), 3), (21, .ireturn, 1), (22, .iload_n 3, 1), (23, .iconst 0, 1), (24, .sipush 999, 3), (27, .invokestatic 67, 3), (30, .ifCond .eq 27, 3), (33, .iload 4, 2), (35, .iconst 0, 1), (36, .sipush 999, 3), (39, .invokestatic 67, 3), (42, .ifCond .eq 15, 3), (45, .iload 5, 2), (47, .iconst 0, 1), (48, .sipush 999, 3), (51, .invokestatic 67, 3), (54, .ifCond .ne 7, 3), (57, .sipush (-1002), 3), (60, .ireturn, 1), (61, .aload_n 0, 1), (62, .getfield 26, 3), (65, .getfield 138, 3), (68, .getfield 142, 3), (71, .bipush 60, 2), (73, .if_icmp .lt 7, 3), (76, .sipush (-1004), 3), (79, .ireturn, 1), (80, .aload_n 0, 1), (81, .getfield 26, 3), (84, .getfield 138, 3)]
set_option maxRecDepth 100000 in
theorem dX10_night_0_g : dX10_night_0_l.all (fun x => decide (decode cX10_night x.1 = .ok x.2)) = true := by decide +kernel
theorem dX10_night_0 : decode cX10_night 0 = .ok (.iload_n 1, 1) := nq_d dX10_night_0_g (n := 0) rfl
theorem dX10_night_1 : decode cX10_night 1 = .ok (.iconst 0, 1) := nq_d dX10_night_0_g (n := 1) rfl
theorem dX10_night_2 : decode cX10_night 2 = .ok (.iconst 3, 1) := nq_d dX10_night_0_g (n := 2) rfl
theorem dX10_night_3 : decode cX10_night 3 = .ok (.invokestatic 67, 3) := nq_d dX10_night_0_g (n := 3) rfl
theorem dX10_night_6 : decode cX10_night 6 = .ok (.ifCond .eq 12, 3) := nq_d dX10_night_0_g (n := 4) rfl
theorem dX10_night_9 : decode cX10_night 9 = .ok (.iload_n 2, 1) := nq_d dX10_night_0_g (n := 5) rfl
theorem dX10_night_10 : decode cX10_night 10 = .ok (.iconst 0, 1) := nq_d dX10_night_0_g (n := 6) rfl
theorem dX10_night_11 : decode cX10_night 11 = .ok (.iconst 1, 1) := nq_d dX10_night_0_g (n := 7) rfl
theorem dX10_night_12 : decode cX10_night 12 = .ok (.invokestatic 67, 3) := nq_d dX10_night_0_g (n := 8) rfl
theorem dX10_night_15 : decode cX10_night 15 = .ok (.ifCond .ne 7, 3) := nq_d dX10_night_0_g (n := 9) rfl
theorem dX10_night_18 : decode cX10_night 18 = .ok (.sipush (-1002), 3) := nq_d dX10_night_0_g (n := 10) rfl
theorem dX10_night_21 : decode cX10_night 21 = .ok (.ireturn, 1) := nq_d dX10_night_0_g (n := 11) rfl
theorem dX10_night_22 : decode cX10_night 22 = .ok (.iload_n 3, 1) := nq_d dX10_night_0_g (n := 12) rfl
theorem dX10_night_23 : decode cX10_night 23 = .ok (.iconst 0, 1) := nq_d dX10_night_0_g (n := 13) rfl
theorem dX10_night_24 : decode cX10_night 24 = .ok (.sipush 999, 3) := nq_d dX10_night_0_g (n := 14) rfl
theorem dX10_night_27 : decode cX10_night 27 = .ok (.invokestatic 67, 3) := nq_d dX10_night_0_g (n := 15) rfl
theorem dX10_night_30 : decode cX10_night 30 = .ok (.ifCond .eq 27, 3) := nq_d dX10_night_0_g (n := 16) rfl
theorem dX10_night_33 : decode cX10_night 33 = .ok (.iload 4, 2) := nq_d dX10_night_0_g (n := 17) rfl
theorem dX10_night_35 : decode cX10_night 35 = .ok (.iconst 0, 1) := nq_d dX10_night_0_g (n := 18) rfl
theorem dX10_night_36 : decode cX10_night 36 = .ok (.sipush 999, 3) := nq_d dX10_night_0_g (n := 19) rfl
theorem dX10_night_39 : decode cX10_night 39 = .ok (.invokestatic 67, 3) := nq_d dX10_night_0_g (n := 20) rfl
theorem dX10_night_42 : decode cX10_night 42 = .ok (.ifCond .eq 15, 3) := nq_d dX10_night_0_g (n := 21) rfl
theorem dX10_night_45 : decode cX10_night 45 = .ok (.iload 5, 2) := nq_d dX10_night_0_g (n := 22) rfl
theorem dX10_night_47 : decode cX10_night 47 = .ok (.iconst 0, 1) := nq_d dX10_night_0_g (n := 23) rfl
theorem dX10_night_48 : decode cX10_night 48 = .ok (.sipush 999, 3) := nq_d dX10_night_0_g (n := 24) rfl
theorem dX10_night_51 : decode cX10_night 51 = .ok (.invokestatic 67, 3) := nq_d dX10_night_0_g (n := 25) rfl
theorem dX10_night_54 : decode cX10_night 54 = .ok (.ifCond .ne 7, 3) := nq_d dX10_night_0_g (n := 26) rfl
theorem dX10_night_57 : decode cX10_night 57 = .ok (.sipush (-1002), 3) := nq_d dX10_night_0_g (n := 27) rfl
theorem dX10_night_60 : decode cX10_night 60 = .ok (.ireturn, 1) := nq_d dX10_night_0_g (n := 28) rfl
theorem dX10_night_61 : decode cX10_night 61 = .ok (.aload_n 0, 1) := nq_d dX10_night_0_g (n := 29) rfl
theorem dX10_night_62 : decode cX10_night 62 = .ok (.getfield 26, 3) := nq_d dX10_night_0_g (n := 30) rfl
theorem dX10_night_65 : decode cX10_night 65 = .ok (.getfield 138, 3) := nq_d dX10_night_0_g (n := 31) rfl
theorem dX10_night_68 : decode cX10_night 68 = .ok (.getfield 142, 3) := nq_d dX10_night_0_g (n := 32) rfl
theorem dX10_night_71 : decode cX10_night 71 = .ok (.bipush 60, 2) := nq_d dX10_night_0_g (n := 33) rfl
theorem dX10_night_73 : decode cX10_night 73 = .ok (.if_icmp .lt 7, 3) := nq_d dX10_night_0_g (n := 34) rfl
theorem dX10_night_76 : decode cX10_night 76 = .ok (.sipush (-1004), 3) := nq_d dX10_night_0_g (n := 35) rfl
theorem dX10_night_79 : decode cX10_night 79 = .ok (.ireturn, 1) := nq_d dX10_night_0_g (n := 36) rfl
theorem dX10_night_80 : decode cX10_night 80 = .ok (.aload_n 0, 1) := nq_d dX10_night_0_g (n := 37) rfl
theorem dX10_night_81 : decode cX10_night 81 = .ok (.getfield 26, 3) := nq_d dX10_night_0_g (n := 38) rfl
theorem dX10_night_84 : decode cX10_night 84 = .ok (.getfield 138, 3) := nq_d dX10_night_0_g (n := 39) rfl
noncomputable def dX10_night_87_l : List (Nat × Instr × Nat) := [(87, .iload_n 1, 1), (88, .iload_n 2, 1), (89, .iload_n 3, 1), (90, .iload 4, 2), (92, .iload 5, 2), (94, .invokevirtual 199, 3), (97, .ireturn, 1)]
set_option maxRecDepth 100000 in
theorem dX10_night_87_g : dX10_night_87_l.all (fun x => decide (decode cX10_night x.1 = .ok x.2)) = true := by decide +kernel
theorem dX10_night_87 : decode cX10_night 87 = .ok (.iload_n 1, 1) := nq_d dX10_night_87_g (n := 0) rfl
theorem dX10_night_88 : decode cX10_night 88 = .ok (.iload_n 2, 1) := nq_d dX10_night_87_g (n := 1) rfl
theorem dX10_night_89 : decode cX10_night 89 = .ok (.iload_n 3, 1) := nq_d dX10_night_87_g (n := 2) rfl
theorem dX10_night_90 : decode cX10_night 90 = .ok (.iload 4, 2) := nq_d dX10_night_87_g (n := 3) rfl
theorem dX10_night_92 : decode cX10_night 92 = .ok (.iload 5, 2) := nq_d dX10_night_87_g (n := 4) rfl
theorem dX10_night_94 : decode cX10_night 94 = .ok (.invokevirtual 199, 3) := nq_d dX10_night_87_g (n := 5) rfl
theorem dX10_night_97 : decode cX10_night 97 = .ok (.ireturn, 1) := nq_d dX10_night_87_g (n := 6) rfl
set_option maxRecDepth 100000 in
theorem ggX10_learnt_X10_within : GoodIn wsX10_learnt wsX10_within := goodIn_sub (sub_c (nq_m (n := 6) rfl) sub_n) (by decide +kernel)
set_option maxRecDepth 100000 in
theorem gX10_learnt_X10_within : GoodIn wsX10_learnt (va_wsS RX10 67 yX10_within wsX10_within) := goodIn_app (goodIn_sub (sub_c (nq_m (n := 3) rfl) (sub_c (nq_m (n := 4) rfl) (sub_c (nq_m (n := 5) rfl) sub_n))) (by decide +kernel)) ggX10_learnt_X10_within
set_option maxRecDepth 100000 in
theorem ggX10_learnt_X6_oddsOf : GoodIn wsX10_learnt wsX6_oddsOf := goodIn_sub (sub_c (nq_m (n := 11) rfl) (sub_c (nq_m (n := 12) rfl) (sub_c (nq_m (n := 4) rfl) (sub_c (nq_m (n := 5) rfl) (sub_c (nq_m (n := 6) rfl) (sub_c (nq_m (n := 28) rfl) (sub_c (nq_m (n := 29) rfl) sub_n))))))) (by decide +kernel)
set_option maxRecDepth 100000 in
theorem gX10_learnt_X6_oddsOf : GoodIn wsX10_learnt (wsV RX10 202 RX6 yX6_oddsOf wsX6_oddsOf) := goodIn_app (goodIn_sub (sub_c (nq_m (n := 7) rfl) (sub_c (nq_m (n := 8) rfl) (sub_c (nq_m (n := 9) rfl) (sub_c (nq_m (n := 10) rfl) sub_n)))) (by decide +kernel)) ggX10_learnt_X6_oddsOf
noncomputable def dX10_learnt_0_l : List (Nat × Instr × Nat) := [(0, .iload_n 1, 1), (1, .iconst 0, 1), (2, .iconst 3, 1), (3, .invokestatic 67, 3), (6, .ifCond .eq 12, 3), (9, .iload_n 2, 1), (10, .iconst 0, 1), (11, .iconst 1, 1), (12, .invokestatic 67, 3), (15, .ifCond .ne 7, 3), (18, .sipush (-1002), 3), (21, .ireturn, 1), (22, .iload_n 3, 1), (23, .iconst 0, 1), (24, .iconst 2, 1), (25, .invokestatic 67, 3), (28, .ifCond .ne 7, 3), (31, .sipush (-1002), 3), (34, .ireturn, 1), (35, .aload_n 0, 1), (36, .getfield 26, 3), (39, .getfield 138, 3), (42, .iload_n 1, 1), (43, .iload_n 2, 1), (44, .iload_n 3, 1), (45, .invokevirtual 202, 3), (48, .ireturn, 1)]
set_option maxRecDepth 100000 in
theorem dX10_learnt_0_g : dX10_learnt_0_l.all (fun x => decide (decode cX10_learnt x.1 = .ok x.2)) = true := by decide +kernel
theorem dX10_learnt_0 : decode cX10_learnt 0 = .ok (.iload_n 1, 1) := nq_d dX10_learnt_0_g (n := 0) rfl
theorem dX10_learnt_1 : decode cX10_learnt 1 = .ok (.iconst 0, 1) := nq_d dX10_learnt_0_g (n := 1) rfl
theorem dX10_learnt_2 : decode cX10_learnt 2 = .ok (.iconst 3, 1) := nq_d dX10_learnt_0_g (n := 2) rfl
theorem dX10_learnt_3 : decode cX10_learnt 3 = .ok (.invokestatic 67, 3) := nq_d dX10_learnt_0_g (n := 3) rfl
theorem dX10_learnt_6 : decode cX10_learnt 6 = .ok (.ifCond .eq 12, 3) := nq_d dX10_learnt_0_g (n := 4) rfl
theorem dX10_learnt_9 : decode cX10_learnt 9 = .ok (.iload_n 2, 1) := nq_d dX10_learnt_0_g (n := 5) rfl
theorem dX10_learnt_10 : decode cX10_learnt 10 = .ok (.iconst 0, 1) := nq_d dX10_learnt_0_g (n := 6) rfl
theorem dX10_learnt_11 : decode cX10_learnt 11 = .ok (.iconst 1, 1) := nq_d dX10_learnt_0_g (n := 7) rfl
theorem dX10_learnt_12 : decode cX10_learnt 12 = .ok (.invokestatic 67, 3) := nq_d dX10_learnt_0_g (n := 8) rfl
theorem dX10_learnt_15 : decode cX10_learnt 15 = .ok (.ifCond .ne 7, 3) := nq_d dX10_learnt_0_g (n := 9) rfl
theorem dX10_learnt_18 : decode cX10_learnt 18 = .ok (.sipush (-1002), 3) := nq_d dX10_learnt_0_g (n := 10) rfl
theorem dX10_learnt_21 : decode cX10_learnt 21 = .ok (.ireturn, 1) := nq_d dX10_learnt_0_g (n := 11) rfl
theorem dX10_learnt_22 : decode cX10_learnt 22 = .ok (.iload_n 3, 1) := nq_d dX10_learnt_0_g (n := 12) rfl
theorem dX10_learnt_23 : decode cX10_learnt 23 = .ok (.iconst 0, 1) := nq_d dX10_learnt_0_g (n := 13) rfl
theorem dX10_learnt_24 : decode cX10_learnt 24 = .ok (.iconst 2, 1) := nq_d dX10_learnt_0_g (n := 14) rfl
theorem dX10_learnt_25 : decode cX10_learnt 25 = .ok (.invokestatic 67, 3) := nq_d dX10_learnt_0_g (n := 15) rfl
theorem dX10_learnt_28 : decode cX10_learnt 28 = .ok (.ifCond .ne 7, 3) := nq_d dX10_learnt_0_g (n := 16) rfl
theorem dX10_learnt_31 : decode cX10_learnt 31 = .ok (.sipush (-1002), 3) := nq_d dX10_learnt_0_g (n := 17) rfl
theorem dX10_learnt_34 : decode cX10_learnt 34 = .ok (.ireturn, 1) := nq_d dX10_learnt_0_g (n := 18) rfl
theorem dX10_learnt_35 : decode cX10_learnt 35 = .ok (.aload_n 0, 1) := nq_d dX10_learnt_0_g (n := 19) rfl
theorem dX10_learnt_36 : decode cX10_learnt 36 = .ok (.getfield 26, 3) := nq_d dX10_learnt_0_g (n := 20) rfl
theorem dX10_learnt_39 : decode cX10_learnt 39 = .ok (.getfield 138, 3) := nq_d dX10_learnt_0_g (n := 21) rfl
theorem dX10_learnt_42 : decode cX10_learnt 42 = .ok (.iload_n 1, 1) := nq_d dX10_learnt_0_g (n := 22) rfl
theorem dX10_learnt_43 : decode cX10_learnt 43 = .ok (.iload_n 2, 1) := nq_d dX10_learnt_0_g (n := 23) rfl
theorem dX10_learnt_44 : decode cX10_learnt 44 = .ok (.iload_n 3, 1) := nq_d dX10_learnt_0_g (n := 24) rfl
theorem dX10_learnt_45 : decode cX10_learnt 45 = .ok (.invokevirtual 202, 3) := nq_d dX10_learnt_0_g (n := 25) rfl
theorem dX10_learnt_48 : decode cX10_learnt 48 = .ok (.ireturn, 1) := nq_d dX10_learnt_0_g (n := 26) rfl
set_option maxRecDepth 100000 in
theorem ggX10_tonight_X10_within : GoodIn wsX10_tonight wsX10_within := goodIn_sub (sub_c (nq_m (n := 6) rfl) sub_n) (by decide +kernel)
set_option maxRecDepth 100000 in
theorem gX10_tonight_X10_within : GoodIn wsX10_tonight (va_wsS RX10 67 yX10_within wsX10_within) := goodIn_app (goodIn_sub (sub_c (nq_m (n := 3) rfl) (sub_c (nq_m (n := 4) rfl) (sub_c (nq_m (n := 5) rfl) sub_n))) (by decide +kernel)) ggX10_tonight_X10_within
noncomputable def dX10_tonight_0_l : List (Nat × Instr × Nat) := [(0, .iload_n 1, 1), (1, .iconst (-1), 1), (2, .iconst 3, 1), (3, .invokestatic 67, 3), (6, .ifCond .eq 12, 3), (9, .iload_n 2, 1), (10, .iconst 0, 1), (11, .iconst 1, 1), (12, .invokestatic 67, 3), (15, .ifCond .ne 7, 3), (18, .sipush (-1002), 3), (21, .ireturn, 1), (22, .aload_n 0, 1), (23, .iload_n 1, 1), (24, .putfield 57, 3), (27, .aload_n 0, 1), (28, .iload_n 2, 1), (29, .putfield 61, 3), (32, .iconst 1, 1), (33, .ireturn, 1)]
set_option maxRecDepth 100000 in
theorem dX10_tonight_0_g : dX10_tonight_0_l.all (fun x => decide (decode cX10_tonight x.1 = .ok x.2)) = true := by decide +kernel
theorem dX10_tonight_0 : decode cX10_tonight 0 = .ok (.iload_n 1, 1) := nq_d dX10_tonight_0_g (n := 0) rfl
theorem dX10_tonight_1 : decode cX10_tonight 1 = .ok (.iconst (-1), 1) := nq_d dX10_tonight_0_g (n := 1) rfl
theorem dX10_tonight_2 : decode cX10_tonight 2 = .ok (.iconst 3, 1) := nq_d dX10_tonight_0_g (n := 2) rfl
theorem dX10_tonight_3 : decode cX10_tonight 3 = .ok (.invokestatic 67, 3) := nq_d dX10_tonight_0_g (n := 3) rfl
theorem dX10_tonight_6 : decode cX10_tonight 6 = .ok (.ifCond .eq 12, 3) := nq_d dX10_tonight_0_g (n := 4) rfl
theorem dX10_tonight_9 : decode cX10_tonight 9 = .ok (.iload_n 2, 1) := nq_d dX10_tonight_0_g (n := 5) rfl
theorem dX10_tonight_10 : decode cX10_tonight 10 = .ok (.iconst 0, 1) := nq_d dX10_tonight_0_g (n := 6) rfl
theorem dX10_tonight_11 : decode cX10_tonight 11 = .ok (.iconst 1, 1) := nq_d dX10_tonight_0_g (n := 7) rfl
theorem dX10_tonight_12 : decode cX10_tonight 12 = .ok (.invokestatic 67, 3) := nq_d dX10_tonight_0_g (n := 8) rfl
theorem dX10_tonight_15 : decode cX10_tonight 15 = .ok (.ifCond .ne 7, 3) := nq_d dX10_tonight_0_g (n := 9) rfl
theorem dX10_tonight_18 : decode cX10_tonight 18 = .ok (.sipush (-1002), 3) := nq_d dX10_tonight_0_g (n := 10) rfl
theorem dX10_tonight_21 : decode cX10_tonight 21 = .ok (.ireturn, 1) := nq_d dX10_tonight_0_g (n := 11) rfl
theorem dX10_tonight_22 : decode cX10_tonight 22 = .ok (.aload_n 0, 1) := nq_d dX10_tonight_0_g (n := 12) rfl
theorem dX10_tonight_23 : decode cX10_tonight 23 = .ok (.iload_n 1, 1) := nq_d dX10_tonight_0_g (n := 13) rfl
theorem dX10_tonight_24 : decode cX10_tonight 24 = .ok (.putfield 57, 3) := nq_d dX10_tonight_0_g (n := 14) rfl
theorem dX10_tonight_27 : decode cX10_tonight 27 = .ok (.aload_n 0, 1) := nq_d dX10_tonight_0_g (n := 15) rfl
theorem dX10_tonight_28 : decode cX10_tonight 28 = .ok (.iload_n 2, 1) := nq_d dX10_tonight_0_g (n := 16) rfl
theorem dX10_tonight_29 : decode cX10_tonight 29 = .ok (.putfield 61, 3) := nq_d dX10_tonight_0_g (n := 17) rfl
theorem dX10_tonight_32 : decode cX10_tonight 32 = .ok (.iconst 1, 1) := nq_d dX10_tonight_0_g (n := 18) rfl
theorem dX10_tonight_33 : decode cX10_tonight 33 = .ok (.ireturn, 1) := nq_d dX10_tonight_0_g (n := 19) rfl
set_option maxRecDepth 100000 in
theorem ggX10_hang_X10_isHand : GoodIn wsX10_hang wsX10_isHand := goodIn_sub (sub_c (nq_m (n := 10) rfl) (sub_c (nq_m (n := 11) rfl) (sub_c (nq_m (n := 12) rfl) (sub_c (nq_m (n := 9) rfl) (sub_c (nq_m (n := 13) rfl) sub_n))))) (by decide +kernel)
set_option maxRecDepth 100000 in
theorem gX10_hang_X10_isHand : GoodIn wsX10_hang (va_wsS RX10 206 yX10_isHand wsX10_isHand) := goodIn_app (goodIn_sub (sub_c (nq_m (n := 7) rfl) (sub_c (nq_m (n := 8) rfl) (sub_c (nq_m (n := 9) rfl) sub_n))) (by decide +kernel)) ggX10_hang_X10_isHand
set_option maxRecDepth 100000 in
theorem ggX10_hang_X2_knows : GoodIn wsX10_hang wsX2_knows := goodIn_sub (sub_c (nq_m (n := 18) rfl) (sub_c (nq_m (n := 19) rfl) (sub_c (nq_m (n := 99) rfl) (sub_c (nq_m (n := 100) rfl) (sub_c (nq_m (n := 101) rfl) (sub_c (nq_m (n := 102) rfl) (sub_c (nq_m (n := 103) rfl) (sub_c (nq_m (n := 104) rfl) (sub_c (nq_m (n := 105) rfl) (sub_c (nq_m (n := 106) rfl) sub_n)))))))))) (by decide +kernel)
set_option maxRecDepth 100000 in
theorem gX10_hang_X2_knows : GoodIn wsX10_hang (wsV RX10 158 RX2 yX2_knows wsX2_knows) := goodIn_app (goodIn_sub (sub_c (nq_m (n := 14) rfl) (sub_c (nq_m (n := 15) rfl) (sub_c (nq_m (n := 16) rfl) (sub_c (nq_m (n := 17) rfl) sub_n)))) (by decide +kernel)) ggX10_hang_X2_knows
set_option maxRecDepth 100000 in
theorem ggX10_hang_X3_hasPeg : GoodIn wsX10_hang wsX3_hasPeg := goodIn_sub (sub_c (nq_m (n := 24) rfl) (sub_c (nq_m (n := 25) rfl) (sub_c (nq_m (n := 107) rfl) (sub_c (nq_m (n := 108) rfl) (sub_c (nq_m (n := 109) rfl) (sub_c (nq_m (n := 110) rfl) (sub_c (nq_m (n := 111) rfl) (sub_c (nq_m (n := 112) rfl) (sub_c (nq_m (n := 113) rfl) sub_n))))))))) (by decide +kernel)
set_option maxRecDepth 100000 in
theorem gX10_hang_X3_hasPeg : GoodIn wsX10_hang (wsV RX10 105 RX3 yX3_hasPeg wsX3_hasPeg) := goodIn_app (goodIn_sub (sub_c (nq_m (n := 20) rfl) (sub_c (nq_m (n := 21) rfl) (sub_c (nq_m (n := 22) rfl) (sub_c (nq_m (n := 23) rfl) sub_n)))) (by decide +kernel)) ggX10_hang_X3_hasPeg
set_option maxRecDepth 100000 in
theorem ggX10_hang_X10_within : GoodIn wsX10_hang wsX10_within := goodIn_sub (sub_c (nq_m (n := 13) rfl) sub_n) (by decide +kernel)
set_option maxRecDepth 100000 in
theorem gX10_hang_X10_within : GoodIn wsX10_hang (va_wsS RX10 67 yX10_within wsX10_within) := goodIn_app (goodIn_sub (sub_c (nq_m (n := 11) rfl) (sub_c (nq_m (n := 12) rfl) (sub_c (nq_m (n := 9) rfl) sub_n))) (by decide +kernel)) ggX10_hang_X10_within
set_option maxRecDepth 100000 in
theorem ggX10_hang_X10_mayHang : GoodIn wsX10_hang wsX10_mayHang := goodIn_sub (sub_c (nq_m (n := 29) rfl) (sub_c (nq_m (n := 1) rfl) (sub_c (nq_m (n := 4) rfl) (sub_c (nq_m (n := 30) rfl) (sub_c (nq_m (n := 3) rfl) (sub_c (nq_m (n := 2) rfl) (sub_c (nq_m (n := 31) rfl) (sub_c (nq_m (n := 32) rfl) (sub_c (nq_m (n := 33) rfl) (sub_c (nq_m (n := 34) rfl) (sub_c (nq_m (n := 35) rfl) (sub_c (nq_m (n := 36) rfl) (sub_c (nq_m (n := 37) rfl) (sub_c (nq_m (n := 38) rfl) (sub_c (nq_m (n := 39) rfl) (sub_c (nq_m (n := 40) rfl) (sub_c (nq_m (n := 41) rfl) (sub_c (nq_m (n := 42) rfl) (sub_c (nq_m (n := 43) rfl) (sub_c (nq_m (n := 44) rfl) (sub_c (nq_m (n := 45) rfl) (sub_c (nq_m (n := 12) rfl) (sub_c (nq_m (n := 9) rfl) (sub_c (nq_m (n := 13) rfl) (sub_c (nq_m (n := 46) rfl) (sub_c (nq_m (n := 47) rfl) (sub_c (nq_m (n := 48) rfl) (sub_c (nq_m (n := 49) rfl) (sub_c (nq_m (n := 50) rfl) (sub_c (nq_m (n := 51) rfl) (sub_c (nq_m (n := 52) rfl) (sub_c (nq_m (n := 53) rfl) (sub_c (nq_m (n := 54) rfl) (sub_c (nq_m (n := 55) rfl) (sub_c (nq_m (n := 17) rfl) (sub_c (nq_m (n := 56) rfl) (sub_c (nq_m (n := 57) rfl) (sub_c (nq_m (n := 58) rfl) (sub_c (nq_m (n := 15) rfl) (sub_c (nq_m (n := 16) rfl) (sub_c (nq_m (n := 18) rfl) (sub_c (nq_m (n := 19) rfl) (sub_c (nq_m (n := 59) rfl) (sub_c (nq_m (n := 60) rfl) (sub_c (nq_m (n := 61) rfl) (sub_c (nq_m (n := 23) rfl) (sub_c (nq_m (n := 62) rfl) (sub_c (nq_m (n := 63) rfl) (sub_c (nq_m (n := 64) rfl) (sub_c (nq_m (n := 21) rfl) (sub_c (nq_m (n := 22) rfl) (sub_c (nq_m (n := 24) rfl) (sub_c (nq_m (n := 25) rfl) (sub_c (nq_m (n := 65) rfl) (sub_c (nq_m (n := 66) rfl) (sub_c (nq_m (n := 67) rfl) (sub_c (nq_m (n := 68) rfl) (sub_c (nq_m (n := 69) rfl) (sub_c (nq_m (n := 84) rfl) (sub_c (nq_m (n := 85) rfl) (sub_c (nq_m (n := 86) rfl) (sub_c (nq_m (n := 87) rfl) (sub_c (nq_m (n := 88) rfl) (sub_c (nq_m (n := 89) rfl) (sub_c (nq_m (n := 90) rfl) (sub_c (nq_m (n := 91) rfl) (sub_c (nq_m (n := 92) rfl) (sub_c (nq_m (n := 93) rfl) (sub_c (nq_m (n := 94) rfl) (sub_c (nq_m (n := 95) rfl) (sub_c (nq_m (n := 96) rfl) (sub_c (nq_m (n := 97) rfl) (sub_c (nq_m (n := 98) rfl) (sub_c (nq_m (n := 114) rfl) (sub_c (nq_m (n := 115) rfl) (sub_c (nq_m (n := 116) rfl) (sub_c (nq_m (n := 117) rfl) (sub_c (nq_m (n := 118) rfl) (sub_c (nq_m (n := 119) rfl) (sub_c (nq_m (n := 99) rfl) (sub_c (nq_m (n := 100) rfl) (sub_c (nq_m (n := 101) rfl) (sub_c (nq_m (n := 102) rfl) (sub_c (nq_m (n := 103) rfl) (sub_c (nq_m (n := 104) rfl) (sub_c (nq_m (n := 105) rfl) (sub_c (nq_m (n := 106) rfl) (sub_c (nq_m (n := 107) rfl) (sub_c (nq_m (n := 108) rfl) (sub_c (nq_m (n := 109) rfl) (sub_c (nq_m (n := 110) rfl) (sub_c (nq_m (n := 111) rfl) (sub_c (nq_m (n := 112) rfl) (sub_c (nq_m (n := 113) rfl) sub_n)))))))))))))))))))))))))))))))))))))))))))))))))))))))))))))))))))))))))))))))))))))))))))))) (by decide +kernel)
set_option maxRecDepth 100000 in
theorem gX10_hang_X10_mayHang : GoodIn wsX10_hang (wsV RX10 209 RX10 yX10_mayHang wsX10_mayHang) := goodIn_app (goodIn_sub (sub_c (nq_m (n := 26) rfl) (sub_c (nq_m (n := 27) rfl) (sub_c (nq_m (n := 28) rfl) (sub_c (nq_m (n := 9) rfl) sub_n)))) (by decide +kernel)) ggX10_hang_X10_mayHang
set_option maxRecDepth 100000 in
theorem ggX10_hang_X2_brassIsOut : GoodIn wsX10_hang wsX2_brassIsOut := goodIn_sub (sub_c (nq_m (n := 73) rfl) (sub_c (nq_m (n := 19) rfl) (sub_c (nq_m (n := 74) rfl) (sub_c (nq_m (n := 99) rfl) (sub_c (nq_m (n := 100) rfl) (sub_c (nq_m (n := 101) rfl) (sub_c (nq_m (n := 102) rfl) (sub_c (nq_m (n := 103) rfl) (sub_c (nq_m (n := 104) rfl) (sub_c (nq_m (n := 105) rfl) (sub_c (nq_m (n := 106) rfl) sub_n))))))))))) (by decide +kernel)
set_option maxRecDepth 100000 in
theorem gX10_hang_X2_brassIsOut : GoodIn wsX10_hang (wsV RX10 213 RX2 yX2_brassIsOut wsX2_brassIsOut) := goodIn_app (goodIn_sub (sub_c (nq_m (n := 70) rfl) (sub_c (nq_m (n := 71) rfl) (sub_c (nq_m (n := 72) rfl) (sub_c (nq_m (n := 17) rfl) sub_n)))) (by decide +kernel)) ggX10_hang_X2_brassIsOut
set_option maxRecDepth 100000 in
theorem ggX10_hang_X1_isFull : GoodIn wsX10_hang wsX1_isFull := goodIn_sub (sub_c (nq_m (n := 78) rfl) (sub_c (nq_m (n := 36) rfl) (sub_c (nq_m (n := 114) rfl) (sub_c (nq_m (n := 115) rfl) sub_n)))) (by decide +kernel)
set_option maxRecDepth 100000 in
theorem gX10_hang_X1_isFull : GoodIn wsX10_hang (wsV RX10 216 RX1 yX1_isFull wsX1_isFull) := goodIn_app (goodIn_sub (sub_c (nq_m (n := 75) rfl) (sub_c (nq_m (n := 76) rfl) (sub_c (nq_m (n := 77) rfl) (sub_c (nq_m (n := 34) rfl) sub_n)))) (by decide +kernel)) ggX10_hang_X1_isFull
set_option maxRecDepth 100000 in
theorem ggX10_hang_X1_add : GoodIn wsX10_hang wsX1_add := goodIn_sub (sub_c (nq_m (n := 82) rfl) (sub_c (nq_m (n := 36) rfl) (sub_c (nq_m (n := 41) rfl) (sub_c (nq_m (n := 83) rfl) (sub_c (nq_m (n := 76) rfl) (sub_c (nq_m (n := 77) rfl) (sub_c (nq_m (n := 34) rfl) (sub_c (nq_m (n := 78) rfl) (sub_c (nq_m (n := 114) rfl) (sub_c (nq_m (n := 115) rfl) sub_n)))))))))) (by decide +kernel)
set_option maxRecDepth 100000 in
theorem gX10_hang_X1_add : GoodIn wsX10_hang (wsV RX10 220 RX1 yX1_add wsX1_add) := goodIn_app (goodIn_sub (sub_c (nq_m (n := 79) rfl) (sub_c (nq_m (n := 80) rfl) (sub_c (nq_m (n := 81) rfl) (sub_c (nq_m (n := 34) rfl) sub_n)))) (by decide +kernel)) ggX10_hang_X1_add
noncomputable def dX10_hang_0_l : List (Nat × Instr × Nat) := [(0, .iload_n 1, 1), (1, .invokestatic 206, 3), (4, .ifCond .eq 28, 3), (7, .aload_n 0, 1), (8, .getfield 26, 3), (11, .getfield 116, 3), (14, .iload_n 2, 1), (15, .invokevirtual 158, 3), (18, .ifCond .eq 14, 3), (21, .aload_n 0, 1), (22, .getfield 10, 3), (25, .iload_n 3, 1), (26, .invokevirtual 105, 3), (29, .ifCond .ne 7, 3), (32, .sipush (-1001), 3), (35, .ireturn, 1), (36, .iload 4, 2), (38, .iconst 0, 1), (39, .bipush 23, 2), (41, .invokestatic 67, 3), (44, .ifCond .ne 7, 3), (47, .sipush (-1002), 3), (50, .ireturn, 1), (51, .aload_n 0, 1), (52, .iload_n 2, 1), (53, .iload_n 3, 1), (54, .invokevirtual 209, 3), (57, .ifCond .eq 18, 3), (60, .aload_n 0, 1), (61, .getfield 26, 3), (64, .getfield 116, 3), (67, .iload 4, 2), (69, .invokevirtual 213, 3), (72, .ifCond .eq 7, 3), (75, .sipush (-1003), 3), (78, .ireturn, 1), (79, .aload_n 0, 1), (80, .getfield 26, 3), (83, .getfield 78, 3), (86, .invokevirtual 216, 3)]
set_option maxRecDepth 100000 in
theorem dX10_hang_0_g : dX10_hang_0_l.all (fun x => decide (decode cX10_hang x.1 = .ok x.2)) = true := by decide +kernel
theorem dX10_hang_0 : decode cX10_hang 0 = .ok (.iload_n 1, 1) := nq_d dX10_hang_0_g (n := 0) rfl
theorem dX10_hang_1 : decode cX10_hang 1 = .ok (.invokestatic 206, 3) := nq_d dX10_hang_0_g (n := 1) rfl
theorem dX10_hang_4 : decode cX10_hang 4 = .ok (.ifCond .eq 28, 3) := nq_d dX10_hang_0_g (n := 2) rfl
theorem dX10_hang_7 : decode cX10_hang 7 = .ok (.aload_n 0, 1) := nq_d dX10_hang_0_g (n := 3) rfl
theorem dX10_hang_8 : decode cX10_hang 8 = .ok (.getfield 26, 3) := nq_d dX10_hang_0_g (n := 4) rfl
theorem dX10_hang_11 : decode cX10_hang 11 = .ok (.getfield 116, 3) := nq_d dX10_hang_0_g (n := 5) rfl
theorem dX10_hang_14 : decode cX10_hang 14 = .ok (.iload_n 2, 1) := nq_d dX10_hang_0_g (n := 6) rfl
theorem dX10_hang_15 : decode cX10_hang 15 = .ok (.invokevirtual 158, 3) := nq_d dX10_hang_0_g (n := 7) rfl
theorem dX10_hang_18 : decode cX10_hang 18 = .ok (.ifCond .eq 14, 3) := nq_d dX10_hang_0_g (n := 8) rfl
theorem dX10_hang_21 : decode cX10_hang 21 = .ok (.aload_n 0, 1) := nq_d dX10_hang_0_g (n := 9) rfl
theorem dX10_hang_22 : decode cX10_hang 22 = .ok (.getfield 10, 3) := nq_d dX10_hang_0_g (n := 10) rfl
theorem dX10_hang_25 : decode cX10_hang 25 = .ok (.iload_n 3, 1) := nq_d dX10_hang_0_g (n := 11) rfl
theorem dX10_hang_26 : decode cX10_hang 26 = .ok (.invokevirtual 105, 3) := nq_d dX10_hang_0_g (n := 12) rfl
theorem dX10_hang_29 : decode cX10_hang 29 = .ok (.ifCond .ne 7, 3) := nq_d dX10_hang_0_g (n := 13) rfl
theorem dX10_hang_32 : decode cX10_hang 32 = .ok (.sipush (-1001), 3) := nq_d dX10_hang_0_g (n := 14) rfl
theorem dX10_hang_35 : decode cX10_hang 35 = .ok (.ireturn, 1) := nq_d dX10_hang_0_g (n := 15) rfl
theorem dX10_hang_36 : decode cX10_hang 36 = .ok (.iload 4, 2) := nq_d dX10_hang_0_g (n := 16) rfl
theorem dX10_hang_38 : decode cX10_hang 38 = .ok (.iconst 0, 1) := nq_d dX10_hang_0_g (n := 17) rfl
theorem dX10_hang_39 : decode cX10_hang 39 = .ok (.bipush 23, 2) := nq_d dX10_hang_0_g (n := 18) rfl
theorem dX10_hang_41 : decode cX10_hang 41 = .ok (.invokestatic 67, 3) := nq_d dX10_hang_0_g (n := 19) rfl
theorem dX10_hang_44 : decode cX10_hang 44 = .ok (.ifCond .ne 7, 3) := nq_d dX10_hang_0_g (n := 20) rfl
theorem dX10_hang_47 : decode cX10_hang 47 = .ok (.sipush (-1002), 3) := nq_d dX10_hang_0_g (n := 21) rfl
theorem dX10_hang_50 : decode cX10_hang 50 = .ok (.ireturn, 1) := nq_d dX10_hang_0_g (n := 22) rfl
theorem dX10_hang_51 : decode cX10_hang 51 = .ok (.aload_n 0, 1) := nq_d dX10_hang_0_g (n := 23) rfl
theorem dX10_hang_52 : decode cX10_hang 52 = .ok (.iload_n 2, 1) := nq_d dX10_hang_0_g (n := 24) rfl
theorem dX10_hang_53 : decode cX10_hang 53 = .ok (.iload_n 3, 1) := nq_d dX10_hang_0_g (n := 25) rfl
theorem dX10_hang_54 : decode cX10_hang 54 = .ok (.invokevirtual 209, 3) := nq_d dX10_hang_0_g (n := 26) rfl
theorem dX10_hang_57 : decode cX10_hang 57 = .ok (.ifCond .eq 18, 3) := nq_d dX10_hang_0_g (n := 27) rfl
theorem dX10_hang_60 : decode cX10_hang 60 = .ok (.aload_n 0, 1) := nq_d dX10_hang_0_g (n := 28) rfl
theorem dX10_hang_61 : decode cX10_hang 61 = .ok (.getfield 26, 3) := nq_d dX10_hang_0_g (n := 29) rfl
theorem dX10_hang_64 : decode cX10_hang 64 = .ok (.getfield 116, 3) := nq_d dX10_hang_0_g (n := 30) rfl
theorem dX10_hang_67 : decode cX10_hang 67 = .ok (.iload 4, 2) := nq_d dX10_hang_0_g (n := 31) rfl
theorem dX10_hang_69 : decode cX10_hang 69 = .ok (.invokevirtual 213, 3) := nq_d dX10_hang_0_g (n := 32) rfl
theorem dX10_hang_72 : decode cX10_hang 72 = .ok (.ifCond .eq 7, 3) := nq_d dX10_hang_0_g (n := 33) rfl
theorem dX10_hang_75 : decode cX10_hang 75 = .ok (.sipush (-1003), 3) := nq_d dX10_hang_0_g (n := 34) rfl
theorem dX10_hang_78 : decode cX10_hang 78 = .ok (.ireturn, 1) := nq_d dX10_hang_0_g (n := 35) rfl
theorem dX10_hang_79 : decode cX10_hang 79 = .ok (.aload_n 0, 1) := nq_d dX10_hang_0_g (n := 36) rfl
theorem dX10_hang_80 : decode cX10_hang 80 = .ok (.getfield 26, 3) := nq_d dX10_hang_0_g (n := 37) rfl
theorem dX10_hang_83 : decode cX10_hang 83 = .ok (.getfield 78, 3) := nq_d dX10_hang_0_g (n := 38) rfl
theorem dX10_hang_86 : decode cX10_hang 86 = .ok (.invokevirtual 216, 3) := nq_d dX10_hang_0_g (n := 39) rfl
noncomputable def dX10_hang_89_l : List (Nat × Instr × Nat) := [(89, .ifCond .eq 7, 3), (92, .sipush (-1004), 3), (95, .ireturn, 1), (96, .aload_n 0, 1), (97, .getfield 26, 3), (100, .getfield 116, 3), (103, .getfield 174, 3), (106, .iload_n 2, 1), (107, .iload_n 3, 1), (108, .iastore, 1), (109, .aload_n 0, 1), (110, .getfield 26, 3), (113, .getfield 116, 3), (116, .getfield 171, 3), (119, .iload_n 2, 1), (120, .iload 4, 2), (122, .iastore, 1), (123, .aload_n 0, 1), (124, .getfield 26, 3), (127, .getfield 78, 3), (130, .iconst 0, 1), (131, .iload_n 1, 1), (132, .iload_n 2, 1), (133, .iload_n 3, 1), (134, .iload 4, 2), (136, .iload_n 2, 1), (137, .invokevirtual 220, 3), (140, .ireturn, 1)]
set_option maxRecDepth 100000 in
theorem dX10_hang_89_g : dX10_hang_89_l.all (fun x => decide (decode cX10_hang x.1 = .ok x.2)) = true := by decide +kernel
theorem dX10_hang_89 : decode cX10_hang 89 = .ok (.ifCond .eq 7, 3) := nq_d dX10_hang_89_g (n := 0) rfl
theorem dX10_hang_92 : decode cX10_hang 92 = .ok (.sipush (-1004), 3) := nq_d dX10_hang_89_g (n := 1) rfl
theorem dX10_hang_95 : decode cX10_hang 95 = .ok (.ireturn, 1) := nq_d dX10_hang_89_g (n := 2) rfl
theorem dX10_hang_96 : decode cX10_hang 96 = .ok (.aload_n 0, 1) := nq_d dX10_hang_89_g (n := 3) rfl
theorem dX10_hang_97 : decode cX10_hang 97 = .ok (.getfield 26, 3) := nq_d dX10_hang_89_g (n := 4) rfl
theorem dX10_hang_100 : decode cX10_hang 100 = .ok (.getfield 116, 3) := nq_d dX10_hang_89_g (n := 5) rfl
theorem dX10_hang_103 : decode cX10_hang 103 = .ok (.getfield 174, 3) := nq_d dX10_hang_89_g (n := 6) rfl
theorem dX10_hang_106 : decode cX10_hang 106 = .ok (.iload_n 2, 1) := nq_d dX10_hang_89_g (n := 7) rfl
theorem dX10_hang_107 : decode cX10_hang 107 = .ok (.iload_n 3, 1) := nq_d dX10_hang_89_g (n := 8) rfl
theorem dX10_hang_108 : decode cX10_hang 108 = .ok (.iastore, 1) := nq_d dX10_hang_89_g (n := 9) rfl
theorem dX10_hang_109 : decode cX10_hang 109 = .ok (.aload_n 0, 1) := nq_d dX10_hang_89_g (n := 10) rfl
theorem dX10_hang_110 : decode cX10_hang 110 = .ok (.getfield 26, 3) := nq_d dX10_hang_89_g (n := 11) rfl
theorem dX10_hang_113 : decode cX10_hang 113 = .ok (.getfield 116, 3) := nq_d dX10_hang_89_g (n := 12) rfl
theorem dX10_hang_116 : decode cX10_hang 116 = .ok (.getfield 171, 3) := nq_d dX10_hang_89_g (n := 13) rfl
theorem dX10_hang_119 : decode cX10_hang 119 = .ok (.iload_n 2, 1) := nq_d dX10_hang_89_g (n := 14) rfl
theorem dX10_hang_120 : decode cX10_hang 120 = .ok (.iload 4, 2) := nq_d dX10_hang_89_g (n := 15) rfl
theorem dX10_hang_122 : decode cX10_hang 122 = .ok (.iastore, 1) := nq_d dX10_hang_89_g (n := 16) rfl
theorem dX10_hang_123 : decode cX10_hang 123 = .ok (.aload_n 0, 1) := nq_d dX10_hang_89_g (n := 17) rfl
theorem dX10_hang_124 : decode cX10_hang 124 = .ok (.getfield 26, 3) := nq_d dX10_hang_89_g (n := 18) rfl
theorem dX10_hang_127 : decode cX10_hang 127 = .ok (.getfield 78, 3) := nq_d dX10_hang_89_g (n := 19) rfl
theorem dX10_hang_130 : decode cX10_hang 130 = .ok (.iconst 0, 1) := nq_d dX10_hang_89_g (n := 20) rfl
theorem dX10_hang_131 : decode cX10_hang 131 = .ok (.iload_n 1, 1) := nq_d dX10_hang_89_g (n := 21) rfl
theorem dX10_hang_132 : decode cX10_hang 132 = .ok (.iload_n 2, 1) := nq_d dX10_hang_89_g (n := 22) rfl
theorem dX10_hang_133 : decode cX10_hang 133 = .ok (.iload_n 3, 1) := nq_d dX10_hang_89_g (n := 23) rfl
theorem dX10_hang_134 : decode cX10_hang 134 = .ok (.iload 4, 2) := nq_d dX10_hang_89_g (n := 24) rfl
theorem dX10_hang_136 : decode cX10_hang 136 = .ok (.iload_n 2, 1) := nq_d dX10_hang_89_g (n := 25) rfl
theorem dX10_hang_137 : decode cX10_hang 137 = .ok (.invokevirtual 220, 3) := nq_d dX10_hang_89_g (n := 26) rfl
theorem dX10_hang_140 : decode cX10_hang 140 = .ok (.ireturn, 1) := nq_d dX10_hang_89_g (n := 27) rfl
set_option maxRecDepth 100000 in
theorem ggX10_give_X10_isHand : GoodIn wsX10_give wsX10_isHand := goodIn_sub (sub_c (nq_m (n := 10) rfl) (sub_c (nq_m (n := 11) rfl) (sub_c (nq_m (n := 12) rfl) (sub_c (nq_m (n := 9) rfl) (sub_c (nq_m (n := 13) rfl) sub_n))))) (by decide +kernel)
set_option maxRecDepth 100000 in
theorem gX10_give_X10_isHand : GoodIn wsX10_give (va_wsS RX10 206 yX10_isHand wsX10_isHand) := goodIn_app (goodIn_sub (sub_c (nq_m (n := 7) rfl) (sub_c (nq_m (n := 8) rfl) (sub_c (nq_m (n := 9) rfl) sub_n))) (by decide +kernel)) ggX10_give_X10_isHand
set_option maxRecDepth 100000 in
theorem ggX10_give_X2_knows : GoodIn wsX10_give wsX2_knows := goodIn_sub (sub_c (nq_m (n := 18) rfl) (sub_c (nq_m (n := 19) rfl) (sub_c (nq_m (n := 64) rfl) (sub_c (nq_m (n := 65) rfl) (sub_c (nq_m (n := 66) rfl) (sub_c (nq_m (n := 67) rfl) (sub_c (nq_m (n := 68) rfl) (sub_c (nq_m (n := 69) rfl) (sub_c (nq_m (n := 70) rfl) (sub_c (nq_m (n := 71) rfl) sub_n)))))))))) (by decide +kernel)
set_option maxRecDepth 100000 in
theorem gX10_give_X2_knows : GoodIn wsX10_give (wsV RX10 158 RX2 yX2_knows wsX2_knows) := goodIn_app (goodIn_sub (sub_c (nq_m (n := 14) rfl) (sub_c (nq_m (n := 15) rfl) (sub_c (nq_m (n := 16) rfl) (sub_c (nq_m (n := 17) rfl) sub_n)))) (by decide +kernel)) ggX10_give_X2_knows
set_option maxRecDepth 100000 in
theorem ggX10_give_X3_hasPeg : GoodIn wsX10_give wsX3_hasPeg := goodIn_sub (sub_c (nq_m (n := 24) rfl) (sub_c (nq_m (n := 25) rfl) (sub_c (nq_m (n := 72) rfl) (sub_c (nq_m (n := 73) rfl) (sub_c (nq_m (n := 74) rfl) (sub_c (nq_m (n := 75) rfl) (sub_c (nq_m (n := 76) rfl) (sub_c (nq_m (n := 77) rfl) (sub_c (nq_m (n := 78) rfl) sub_n))))))))) (by decide +kernel)
set_option maxRecDepth 100000 in
theorem gX10_give_X3_hasPeg : GoodIn wsX10_give (wsV RX10 105 RX3 yX3_hasPeg wsX3_hasPeg) := goodIn_app (goodIn_sub (sub_c (nq_m (n := 20) rfl) (sub_c (nq_m (n := 21) rfl) (sub_c (nq_m (n := 22) rfl) (sub_c (nq_m (n := 23) rfl) sub_n)))) (by decide +kernel)) ggX10_give_X3_hasPeg
set_option maxRecDepth 100000 in
theorem ggX10_give_X2_ownerOn : GoodIn wsX10_give wsX2_ownerOn := goodIn_sub (sub_c (nq_m (n := 29) rfl) (sub_c (nq_m (n := 19) rfl) (sub_c (nq_m (n := 30) rfl) (sub_c (nq_m (n := 64) rfl) (sub_c (nq_m (n := 65) rfl) (sub_c (nq_m (n := 66) rfl) (sub_c (nq_m (n := 67) rfl) (sub_c (nq_m (n := 68) rfl) (sub_c (nq_m (n := 69) rfl) (sub_c (nq_m (n := 70) rfl) (sub_c (nq_m (n := 71) rfl) sub_n))))))))))) (by decide +kernel)
set_option maxRecDepth 100000 in
theorem gX10_give_X2_ownerOn : GoodIn wsX10_give (wsV RX10 120 RX2 yX2_ownerOn wsX2_ownerOn) := goodIn_app (goodIn_sub (sub_c (nq_m (n := 26) rfl) (sub_c (nq_m (n := 27) rfl) (sub_c (nq_m (n := 28) rfl) (sub_c (nq_m (n := 17) rfl) sub_n)))) (by decide +kernel)) ggX10_give_X2_ownerOn
set_option maxRecDepth 100000 in
theorem ggX10_give_X1_isFull : GoodIn wsX10_give wsX1_isFull := goodIn_sub (sub_c (nq_m (n := 35) rfl) (sub_c (nq_m (n := 36) rfl) (sub_c (nq_m (n := 79) rfl) (sub_c (nq_m (n := 80) rfl) sub_n)))) (by decide +kernel)
set_option maxRecDepth 100000 in
theorem gX10_give_X1_isFull : GoodIn wsX10_give (wsV RX10 216 RX1 yX1_isFull wsX1_isFull) := goodIn_app (goodIn_sub (sub_c (nq_m (n := 31) rfl) (sub_c (nq_m (n := 32) rfl) (sub_c (nq_m (n := 33) rfl) (sub_c (nq_m (n := 34) rfl) sub_n)))) (by decide +kernel)) ggX10_give_X1_isFull
set_option maxRecDepth 100000 in
theorem ggX10_give_X2_handOver : GoodIn wsX10_give wsX2_handOver := goodIn_sub (sub_c (nq_m (n := 40) rfl) (sub_c (nq_m (n := 30) rfl) (sub_c (nq_m (n := 41) rfl) (sub_c (nq_m (n := 42) rfl) (sub_c (nq_m (n := 15) rfl) (sub_c (nq_m (n := 16) rfl) (sub_c (nq_m (n := 17) rfl) (sub_c (nq_m (n := 18) rfl) (sub_c (nq_m (n := 19) rfl) (sub_c (nq_m (n := 64) rfl) (sub_c (nq_m (n := 65) rfl) (sub_c (nq_m (n := 66) rfl) (sub_c (nq_m (n := 67) rfl) (sub_c (nq_m (n := 68) rfl) (sub_c (nq_m (n := 69) rfl) (sub_c (nq_m (n := 70) rfl) (sub_c (nq_m (n := 71) rfl) sub_n))))))))))))))))) (by decide +kernel)
set_option maxRecDepth 100000 in
theorem gX10_give_X2_handOver : GoodIn wsX10_give (wsV RX10 223 RX2 yX2_handOver wsX2_handOver) := goodIn_app (goodIn_sub (sub_c (nq_m (n := 37) rfl) (sub_c (nq_m (n := 38) rfl) (sub_c (nq_m (n := 39) rfl) (sub_c (nq_m (n := 17) rfl) sub_n)))) (by decide +kernel)) ggX10_give_X2_handOver
set_option maxRecDepth 100000 in
theorem ggX10_give_X1_add : GoodIn wsX10_give wsX1_add := goodIn_sub (sub_c (nq_m (n := 46) rfl) (sub_c (nq_m (n := 36) rfl) (sub_c (nq_m (n := 47) rfl) (sub_c (nq_m (n := 48) rfl) (sub_c (nq_m (n := 32) rfl) (sub_c (nq_m (n := 33) rfl) (sub_c (nq_m (n := 34) rfl) (sub_c (nq_m (n := 35) rfl) (sub_c (nq_m (n := 79) rfl) (sub_c (nq_m (n := 80) rfl) sub_n)))))))))) (by decide +kernel)
set_option maxRecDepth 100000 in
theorem gX10_give_X1_add : GoodIn wsX10_give (wsV RX10 220 RX1 yX1_add wsX1_add) := goodIn_app (goodIn_sub (sub_c (nq_m (n := 43) rfl) (sub_c (nq_m (n := 44) rfl) (sub_c (nq_m (n := 45) rfl) (sub_c (nq_m (n := 34) rfl) sub_n)))) (by decide +kernel)) ggX10_give_X1_add
noncomputable def dX10_give_0_l : List (Nat × Instr × Nat) := [(0, .aload_n 0, 1), (1, .getfield 26, 3), (4, .getfield 116, 3), (7, .astore 4, 2), (9, .iload_n 1, 1), (10, .invokestatic 206, 3), (13, .ifCond .eq 23, 3), (16, .aload 4, 2), (18, .iload_n 2, 1), (19, .invokevirtual 158, 3), (22, .ifCond .eq 14, 3), (25, .aload_n 0, 1), (26, .getfield 10, 3), (29, .iload_n 3, 1), (30, .invokevirtual 105, 3), (33, .ifCond .ne 7, 3), (36, .sipush (-1001), 3), (39, .ireturn, 1), (40, .aload 4, 2), (42, .iload_n 3, 1), (43, .invokevirtual 120, 3), (46, .istore 5, 2), (48, .aload 4, 2), (50, .getfield 171, 3), (53, .iload_n 2, 1), (54, .iaload, 1), (55, .iconst (-1), 1), (56, .if_icmp .eq 20, 3), (59, .aload 4, 2), (61, .getfield 180, 3), (64, .iload_n 2, 1), (65, .iaload, 1), (66, .iconst (-1), 1), (67, .if_icmp .ne 9, 3), (70, .iload 5, 2), (72, .iconst (-1), 1), (73, .if_icmp .ne 7, 3), (76, .sipush (-1003), 3), (79, .ireturn, 1), (80, .aload_n 0, 1)]
set_option maxRecDepth 100000 in
theorem dX10_give_0_g : dX10_give_0_l.all (fun x => decide (decode cX10_give x.1 = .ok x.2)) = true := by decide +kernel
theorem dX10_give_0 : decode cX10_give 0 = .ok (.aload_n 0, 1) := nq_d dX10_give_0_g (n := 0) rfl
theorem dX10_give_1 : decode cX10_give 1 = .ok (.getfield 26, 3) := nq_d dX10_give_0_g (n := 1) rfl
theorem dX10_give_4 : decode cX10_give 4 = .ok (.getfield 116, 3) := nq_d dX10_give_0_g (n := 2) rfl
theorem dX10_give_7 : decode cX10_give 7 = .ok (.astore 4, 2) := nq_d dX10_give_0_g (n := 3) rfl
theorem dX10_give_9 : decode cX10_give 9 = .ok (.iload_n 1, 1) := nq_d dX10_give_0_g (n := 4) rfl
theorem dX10_give_10 : decode cX10_give 10 = .ok (.invokestatic 206, 3) := nq_d dX10_give_0_g (n := 5) rfl
theorem dX10_give_13 : decode cX10_give 13 = .ok (.ifCond .eq 23, 3) := nq_d dX10_give_0_g (n := 6) rfl
theorem dX10_give_16 : decode cX10_give 16 = .ok (.aload 4, 2) := nq_d dX10_give_0_g (n := 7) rfl
theorem dX10_give_18 : decode cX10_give 18 = .ok (.iload_n 2, 1) := nq_d dX10_give_0_g (n := 8) rfl
theorem dX10_give_19 : decode cX10_give 19 = .ok (.invokevirtual 158, 3) := nq_d dX10_give_0_g (n := 9) rfl
theorem dX10_give_22 : decode cX10_give 22 = .ok (.ifCond .eq 14, 3) := nq_d dX10_give_0_g (n := 10) rfl
theorem dX10_give_25 : decode cX10_give 25 = .ok (.aload_n 0, 1) := nq_d dX10_give_0_g (n := 11) rfl
theorem dX10_give_26 : decode cX10_give 26 = .ok (.getfield 10, 3) := nq_d dX10_give_0_g (n := 12) rfl
theorem dX10_give_29 : decode cX10_give 29 = .ok (.iload_n 3, 1) := nq_d dX10_give_0_g (n := 13) rfl
theorem dX10_give_30 : decode cX10_give 30 = .ok (.invokevirtual 105, 3) := nq_d dX10_give_0_g (n := 14) rfl
theorem dX10_give_33 : decode cX10_give 33 = .ok (.ifCond .ne 7, 3) := nq_d dX10_give_0_g (n := 15) rfl
theorem dX10_give_36 : decode cX10_give 36 = .ok (.sipush (-1001), 3) := nq_d dX10_give_0_g (n := 16) rfl
theorem dX10_give_39 : decode cX10_give 39 = .ok (.ireturn, 1) := nq_d dX10_give_0_g (n := 17) rfl
theorem dX10_give_40 : decode cX10_give 40 = .ok (.aload 4, 2) := nq_d dX10_give_0_g (n := 18) rfl
theorem dX10_give_42 : decode cX10_give 42 = .ok (.iload_n 3, 1) := nq_d dX10_give_0_g (n := 19) rfl
theorem dX10_give_43 : decode cX10_give 43 = .ok (.invokevirtual 120, 3) := nq_d dX10_give_0_g (n := 20) rfl
theorem dX10_give_46 : decode cX10_give 46 = .ok (.istore 5, 2) := nq_d dX10_give_0_g (n := 21) rfl
theorem dX10_give_48 : decode cX10_give 48 = .ok (.aload 4, 2) := nq_d dX10_give_0_g (n := 22) rfl
theorem dX10_give_50 : decode cX10_give 50 = .ok (.getfield 171, 3) := nq_d dX10_give_0_g (n := 23) rfl
theorem dX10_give_53 : decode cX10_give 53 = .ok (.iload_n 2, 1) := nq_d dX10_give_0_g (n := 24) rfl
theorem dX10_give_54 : decode cX10_give 54 = .ok (.iaload, 1) := nq_d dX10_give_0_g (n := 25) rfl
theorem dX10_give_55 : decode cX10_give 55 = .ok (.iconst (-1), 1) := nq_d dX10_give_0_g (n := 26) rfl
theorem dX10_give_56 : decode cX10_give 56 = .ok (.if_icmp .eq 20, 3) := nq_d dX10_give_0_g (n := 27) rfl
theorem dX10_give_59 : decode cX10_give 59 = .ok (.aload 4, 2) := nq_d dX10_give_0_g (n := 28) rfl
theorem dX10_give_61 : decode cX10_give 61 = .ok (.getfield 180, 3) := nq_d dX10_give_0_g (n := 29) rfl
theorem dX10_give_64 : decode cX10_give 64 = .ok (.iload_n 2, 1) := nq_d dX10_give_0_g (n := 30) rfl
theorem dX10_give_65 : decode cX10_give 65 = .ok (.iaload, 1) := nq_d dX10_give_0_g (n := 31) rfl
theorem dX10_give_66 : decode cX10_give 66 = .ok (.iconst (-1), 1) := nq_d dX10_give_0_g (n := 32) rfl
theorem dX10_give_67 : decode cX10_give 67 = .ok (.if_icmp .ne 9, 3) := nq_d dX10_give_0_g (n := 33) rfl
theorem dX10_give_70 : decode cX10_give 70 = .ok (.iload 5, 2) := nq_d dX10_give_0_g (n := 34) rfl
theorem dX10_give_72 : decode cX10_give 72 = .ok (.iconst (-1), 1) := nq_d dX10_give_0_g (n := 35) rfl
theorem dX10_give_73 : decode cX10_give 73 = .ok (.if_icmp .ne 7, 3) := nq_d dX10_give_0_g (n := 36) rfl
theorem dX10_give_76 : decode cX10_give 76 = .ok (.sipush (-1003), 3) := nq_d dX10_give_0_g (n := 37) rfl
theorem dX10_give_79 : decode cX10_give 79 = .ok (.ireturn, 1) := nq_d dX10_give_0_g (n := 38) rfl
theorem dX10_give_80 : decode cX10_give 80 = .ok (.aload_n 0, 1) := nq_d dX10_give_0_g (n := 39) rfl
noncomputable def dX10_give_81_l : List (Nat × Instr × Nat) := [(81, .getfield 26, 3), (84, .getfield 78, 3), (87, .invokevirtual 216, 3), (90, .ifCond .eq 7, 3), (93, .sipush (-1004), 3), (96, .ireturn, 1), (97, .aload 4, 2), (99, .getfield 171, 3), (102, .iload_n 2, 1), (103, .iaload, 1), (104, .istore 6, 2), (106, .aload 4, 2), (108, .getfield 171, 3), (111, .iload_n 2, 1), (112, .iconst (-1), 1), (113, .iastore, 1), (114, .aload 4, 2), (116, .iload 5, 2), (118, .iload_n 2, 1), (119, .invokevirtual 223, 3), (122, .aload_n 0, 1), (123, .getfield 26, 3), (126, .getfield 78, 3), (129, .iconst 1, 1), (130, .iload_n 1, 1), (131, .iload_n 2, 1), (132, .iload_n 3, 1), (133, .iload 6, 2), (135, .iload 5, 2), (137, .invokevirtual 220, 3), (140, .ireturn, 1)]
set_option maxRecDepth 100000 in
theorem dX10_give_81_g : dX10_give_81_l.all (fun x => decide (decode cX10_give x.1 = .ok x.2)) = true := by decide +kernel
theorem dX10_give_81 : decode cX10_give 81 = .ok (.getfield 26, 3) := nq_d dX10_give_81_g (n := 0) rfl
theorem dX10_give_84 : decode cX10_give 84 = .ok (.getfield 78, 3) := nq_d dX10_give_81_g (n := 1) rfl
theorem dX10_give_87 : decode cX10_give 87 = .ok (.invokevirtual 216, 3) := nq_d dX10_give_81_g (n := 2) rfl
theorem dX10_give_90 : decode cX10_give 90 = .ok (.ifCond .eq 7, 3) := nq_d dX10_give_81_g (n := 3) rfl
theorem dX10_give_93 : decode cX10_give 93 = .ok (.sipush (-1004), 3) := nq_d dX10_give_81_g (n := 4) rfl
theorem dX10_give_96 : decode cX10_give 96 = .ok (.ireturn, 1) := nq_d dX10_give_81_g (n := 5) rfl
theorem dX10_give_97 : decode cX10_give 97 = .ok (.aload 4, 2) := nq_d dX10_give_81_g (n := 6) rfl
theorem dX10_give_99 : decode cX10_give 99 = .ok (.getfield 171, 3) := nq_d dX10_give_81_g (n := 7) rfl
theorem dX10_give_102 : decode cX10_give 102 = .ok (.iload_n 2, 1) := nq_d dX10_give_81_g (n := 8) rfl
theorem dX10_give_103 : decode cX10_give 103 = .ok (.iaload, 1) := nq_d dX10_give_81_g (n := 9) rfl
theorem dX10_give_104 : decode cX10_give 104 = .ok (.istore 6, 2) := nq_d dX10_give_81_g (n := 10) rfl
theorem dX10_give_106 : decode cX10_give 106 = .ok (.aload 4, 2) := nq_d dX10_give_81_g (n := 11) rfl
theorem dX10_give_108 : decode cX10_give 108 = .ok (.getfield 171, 3) := nq_d dX10_give_81_g (n := 12) rfl
theorem dX10_give_111 : decode cX10_give 111 = .ok (.iload_n 2, 1) := nq_d dX10_give_81_g (n := 13) rfl
theorem dX10_give_112 : decode cX10_give 112 = .ok (.iconst (-1), 1) := nq_d dX10_give_81_g (n := 14) rfl
theorem dX10_give_113 : decode cX10_give 113 = .ok (.iastore, 1) := nq_d dX10_give_81_g (n := 15) rfl
theorem dX10_give_114 : decode cX10_give 114 = .ok (.aload 4, 2) := nq_d dX10_give_81_g (n := 16) rfl
theorem dX10_give_116 : decode cX10_give 116 = .ok (.iload 5, 2) := nq_d dX10_give_81_g (n := 17) rfl
theorem dX10_give_118 : decode cX10_give 118 = .ok (.iload_n 2, 1) := nq_d dX10_give_81_g (n := 18) rfl
theorem dX10_give_119 : decode cX10_give 119 = .ok (.invokevirtual 223, 3) := nq_d dX10_give_81_g (n := 19) rfl
theorem dX10_give_122 : decode cX10_give 122 = .ok (.aload_n 0, 1) := nq_d dX10_give_81_g (n := 20) rfl
theorem dX10_give_123 : decode cX10_give 123 = .ok (.getfield 26, 3) := nq_d dX10_give_81_g (n := 21) rfl
theorem dX10_give_126 : decode cX10_give 126 = .ok (.getfield 78, 3) := nq_d dX10_give_81_g (n := 22) rfl
theorem dX10_give_129 : decode cX10_give 129 = .ok (.iconst 1, 1) := nq_d dX10_give_81_g (n := 23) rfl
theorem dX10_give_130 : decode cX10_give 130 = .ok (.iload_n 1, 1) := nq_d dX10_give_81_g (n := 24) rfl
theorem dX10_give_131 : decode cX10_give 131 = .ok (.iload_n 2, 1) := nq_d dX10_give_81_g (n := 25) rfl
theorem dX10_give_132 : decode cX10_give 132 = .ok (.iload_n 3, 1) := nq_d dX10_give_81_g (n := 26) rfl
theorem dX10_give_133 : decode cX10_give 133 = .ok (.iload 6, 2) := nq_d dX10_give_81_g (n := 27) rfl
theorem dX10_give_135 : decode cX10_give 135 = .ok (.iload 5, 2) := nq_d dX10_give_81_g (n := 28) rfl
theorem dX10_give_137 : decode cX10_give 137 = .ok (.invokevirtual 220, 3) := nq_d dX10_give_81_g (n := 29) rfl
theorem dX10_give_140 : decode cX10_give 140 = .ok (.ireturn, 1) := nq_d dX10_give_81_g (n := 30) rfl
set_option maxRecDepth 100000 in
theorem ggX10_lose_X2_knows : GoodIn wsX10_lose wsX2_knows := goodIn_sub (sub_c (nq_m (n := 9) rfl) (sub_c (nq_m (n := 10) rfl) (sub_c (nq_m (n := 38) rfl) (sub_c (nq_m (n := 39) rfl) (sub_c (nq_m (n := 40) rfl) (sub_c (nq_m (n := 41) rfl) (sub_c (nq_m (n := 42) rfl) (sub_c (nq_m (n := 43) rfl) (sub_c (nq_m (n := 44) rfl) (sub_c (nq_m (n := 45) rfl) sub_n)))))))))) (by decide +kernel)
set_option maxRecDepth 100000 in
theorem gX10_lose_X2_knows : GoodIn wsX10_lose (wsV RX10 158 RX2 yX2_knows wsX2_knows) := goodIn_app (goodIn_sub (sub_c (nq_m (n := 5) rfl) (sub_c (nq_m (n := 6) rfl) (sub_c (nq_m (n := 7) rfl) (sub_c (nq_m (n := 8) rfl) sub_n)))) (by decide +kernel)) ggX10_lose_X2_knows
set_option maxRecDepth 100000 in
theorem ggX10_lose_X1_isFull : GoodIn wsX10_lose wsX1_isFull := goodIn_sub (sub_c (nq_m (n := 15) rfl) (sub_c (nq_m (n := 16) rfl) (sub_c (nq_m (n := 46) rfl) (sub_c (nq_m (n := 47) rfl) sub_n)))) (by decide +kernel)
set_option maxRecDepth 100000 in
theorem gX10_lose_X1_isFull : GoodIn wsX10_lose (wsV RX10 216 RX1 yX1_isFull wsX1_isFull) := goodIn_app (goodIn_sub (sub_c (nq_m (n := 11) rfl) (sub_c (nq_m (n := 12) rfl) (sub_c (nq_m (n := 13) rfl) (sub_c (nq_m (n := 14) rfl) sub_n)))) (by decide +kernel)) ggX10_lose_X1_isFull
set_option maxRecDepth 100000 in
theorem ggX10_lose_X1_add : GoodIn wsX10_lose wsX1_add := goodIn_sub (sub_c (nq_m (n := 20) rfl) (sub_c (nq_m (n := 16) rfl) (sub_c (nq_m (n := 21) rfl) (sub_c (nq_m (n := 22) rfl) (sub_c (nq_m (n := 12) rfl) (sub_c (nq_m (n := 13) rfl) (sub_c (nq_m (n := 14) rfl) (sub_c (nq_m (n := 15) rfl) (sub_c (nq_m (n := 46) rfl) (sub_c (nq_m (n := 47) rfl) sub_n)))))))))) (by decide +kernel)
set_option maxRecDepth 100000 in
theorem gX10_lose_X1_add : GoodIn wsX10_lose (wsV RX10 220 RX1 yX1_add wsX1_add) := goodIn_app (goodIn_sub (sub_c (nq_m (n := 17) rfl) (sub_c (nq_m (n := 18) rfl) (sub_c (nq_m (n := 19) rfl) (sub_c (nq_m (n := 14) rfl) sub_n)))) (by decide +kernel)) ggX10_lose_X1_add
noncomputable def dX10_lose_0_l : List (Nat × Instr × Nat) := [(0, .aload_n 0, 1), (1, .getfield 26, 3), (4, .getfield 116, 3), (7, .iload_n 1, 1), (8, .invokevirtual 158, 3), (11, .ifCond .ne 7, 3), (14, .sipush (-1001), 3), (17, .ireturn, 1), (18, .aload_n 0, 1), (19, .getfield 26, 3), (22, .getfield 116, 3), (25, .getfield 171, 3), (28, .iload_n 1, 1), (29, .iaload, 1), (30, .istore_n 2, 1), (31, .iload_n 2, 1), (32, .iconst (-1), 1), (33, .if_icmp .ne 7, 3), (36, .sipush (-1003), 3), (39, .ireturn, 1), (40, .aload_n 0, 1), (41, .getfield 26, 3), (44, .getfield 78, 3), (47, .invokevirtual 216, 3), (50, .ifCond .eq 7, 3), (53, .sipush (-1004), 3), (56, .ireturn, 1), (57, .aload_n 0, 1), (58, .getfield 26, 3), (61, .getfield 116, 3), (64, .getfield 171, 3), (67, .iload_n 1, 1), (68, .iconst (-1), 1), (69, .iastore, 1), (70, .aload_n 0, 1), (71, .getfield 26, 3), (74, .getfield 78, 3), (77, .iconst 2, 1), (78, .iconst (-1), 1), (79, .iload_n 1, 1)]
set_option maxRecDepth 100000 in
theorem dX10_lose_0_g : dX10_lose_0_l.all (fun x => decide (decode cX10_lose x.1 = .ok x.2)) = true := by decide +kernel
theorem dX10_lose_0 : decode cX10_lose 0 = .ok (.aload_n 0, 1) := nq_d dX10_lose_0_g (n := 0) rfl
theorem dX10_lose_1 : decode cX10_lose 1 = .ok (.getfield 26, 3) := nq_d dX10_lose_0_g (n := 1) rfl
theorem dX10_lose_4 : decode cX10_lose 4 = .ok (.getfield 116, 3) := nq_d dX10_lose_0_g (n := 2) rfl
theorem dX10_lose_7 : decode cX10_lose 7 = .ok (.iload_n 1, 1) := nq_d dX10_lose_0_g (n := 3) rfl
theorem dX10_lose_8 : decode cX10_lose 8 = .ok (.invokevirtual 158, 3) := nq_d dX10_lose_0_g (n := 4) rfl
theorem dX10_lose_11 : decode cX10_lose 11 = .ok (.ifCond .ne 7, 3) := nq_d dX10_lose_0_g (n := 5) rfl
theorem dX10_lose_14 : decode cX10_lose 14 = .ok (.sipush (-1001), 3) := nq_d dX10_lose_0_g (n := 6) rfl
theorem dX10_lose_17 : decode cX10_lose 17 = .ok (.ireturn, 1) := nq_d dX10_lose_0_g (n := 7) rfl
theorem dX10_lose_18 : decode cX10_lose 18 = .ok (.aload_n 0, 1) := nq_d dX10_lose_0_g (n := 8) rfl
theorem dX10_lose_19 : decode cX10_lose 19 = .ok (.getfield 26, 3) := nq_d dX10_lose_0_g (n := 9) rfl
theorem dX10_lose_22 : decode cX10_lose 22 = .ok (.getfield 116, 3) := nq_d dX10_lose_0_g (n := 10) rfl
theorem dX10_lose_25 : decode cX10_lose 25 = .ok (.getfield 171, 3) := nq_d dX10_lose_0_g (n := 11) rfl
theorem dX10_lose_28 : decode cX10_lose 28 = .ok (.iload_n 1, 1) := nq_d dX10_lose_0_g (n := 12) rfl
theorem dX10_lose_29 : decode cX10_lose 29 = .ok (.iaload, 1) := nq_d dX10_lose_0_g (n := 13) rfl
theorem dX10_lose_30 : decode cX10_lose 30 = .ok (.istore_n 2, 1) := nq_d dX10_lose_0_g (n := 14) rfl
theorem dX10_lose_31 : decode cX10_lose 31 = .ok (.iload_n 2, 1) := nq_d dX10_lose_0_g (n := 15) rfl
theorem dX10_lose_32 : decode cX10_lose 32 = .ok (.iconst (-1), 1) := nq_d dX10_lose_0_g (n := 16) rfl
theorem dX10_lose_33 : decode cX10_lose 33 = .ok (.if_icmp .ne 7, 3) := nq_d dX10_lose_0_g (n := 17) rfl
theorem dX10_lose_36 : decode cX10_lose 36 = .ok (.sipush (-1003), 3) := nq_d dX10_lose_0_g (n := 18) rfl
theorem dX10_lose_39 : decode cX10_lose 39 = .ok (.ireturn, 1) := nq_d dX10_lose_0_g (n := 19) rfl
theorem dX10_lose_40 : decode cX10_lose 40 = .ok (.aload_n 0, 1) := nq_d dX10_lose_0_g (n := 20) rfl
theorem dX10_lose_41 : decode cX10_lose 41 = .ok (.getfield 26, 3) := nq_d dX10_lose_0_g (n := 21) rfl
theorem dX10_lose_44 : decode cX10_lose 44 = .ok (.getfield 78, 3) := nq_d dX10_lose_0_g (n := 22) rfl
theorem dX10_lose_47 : decode cX10_lose 47 = .ok (.invokevirtual 216, 3) := nq_d dX10_lose_0_g (n := 23) rfl
theorem dX10_lose_50 : decode cX10_lose 50 = .ok (.ifCond .eq 7, 3) := nq_d dX10_lose_0_g (n := 24) rfl
theorem dX10_lose_53 : decode cX10_lose 53 = .ok (.sipush (-1004), 3) := nq_d dX10_lose_0_g (n := 25) rfl
theorem dX10_lose_56 : decode cX10_lose 56 = .ok (.ireturn, 1) := nq_d dX10_lose_0_g (n := 26) rfl
theorem dX10_lose_57 : decode cX10_lose 57 = .ok (.aload_n 0, 1) := nq_d dX10_lose_0_g (n := 27) rfl
theorem dX10_lose_58 : decode cX10_lose 58 = .ok (.getfield 26, 3) := nq_d dX10_lose_0_g (n := 28) rfl
theorem dX10_lose_61 : decode cX10_lose 61 = .ok (.getfield 116, 3) := nq_d dX10_lose_0_g (n := 29) rfl
theorem dX10_lose_64 : decode cX10_lose 64 = .ok (.getfield 171, 3) := nq_d dX10_lose_0_g (n := 30) rfl
theorem dX10_lose_67 : decode cX10_lose 67 = .ok (.iload_n 1, 1) := nq_d dX10_lose_0_g (n := 31) rfl
theorem dX10_lose_68 : decode cX10_lose 68 = .ok (.iconst (-1), 1) := nq_d dX10_lose_0_g (n := 32) rfl
theorem dX10_lose_69 : decode cX10_lose 69 = .ok (.iastore, 1) := nq_d dX10_lose_0_g (n := 33) rfl
theorem dX10_lose_70 : decode cX10_lose 70 = .ok (.aload_n 0, 1) := nq_d dX10_lose_0_g (n := 34) rfl
theorem dX10_lose_71 : decode cX10_lose 71 = .ok (.getfield 26, 3) := nq_d dX10_lose_0_g (n := 35) rfl
theorem dX10_lose_74 : decode cX10_lose 74 = .ok (.getfield 78, 3) := nq_d dX10_lose_0_g (n := 36) rfl
theorem dX10_lose_77 : decode cX10_lose 77 = .ok (.iconst 2, 1) := nq_d dX10_lose_0_g (n := 37) rfl
theorem dX10_lose_78 : decode cX10_lose 78 = .ok (.iconst (-1), 1) := nq_d dX10_lose_0_g (n := 38) rfl
theorem dX10_lose_79 : decode cX10_lose 79 = .ok (.iload_n 1, 1) := nq_d dX10_lose_0_g (n := 39) rfl
noncomputable def dX10_lose_80_l : List (Nat × Instr × Nat) := [(80, .iconst (-1), 1), (81, .iload_n 2, 1), (82, .iconst (-1), 1), (83, .invokevirtual 220, 3), (86, .ireturn, 1)]
set_option maxRecDepth 100000 in
theorem dX10_lose_80_g : dX10_lose_80_l.all (fun x => decide (decode cX10_lose x.1 = .ok x.2)) = true := by decide +kernel
theorem dX10_lose_80 : decode cX10_lose 80 = .ok (.iconst (-1), 1) := nq_d dX10_lose_80_g (n := 0) rfl
theorem dX10_lose_81 : decode cX10_lose 81 = .ok (.iload_n 2, 1) := nq_d dX10_lose_80_g (n := 1) rfl
theorem dX10_lose_82 : decode cX10_lose 82 = .ok (.iconst (-1), 1) := nq_d dX10_lose_80_g (n := 2) rfl
theorem dX10_lose_83 : decode cX10_lose 83 = .ok (.invokevirtual 220, 3) := nq_d dX10_lose_80_g (n := 3) rfl
theorem dX10_lose_86 : decode cX10_lose 86 = .ok (.ireturn, 1) := nq_d dX10_lose_80_g (n := 4) rfl
set_option maxRecDepth 100000 in
theorem ggX10_event_X1_knows : GoodIn wsX10_event wsX1_knows := goodIn_sub (sub_c (nq_m (n := 7) rfl) (sub_c (nq_m (n := 8) rfl) (sub_c (nq_m (n := 34) rfl) (sub_c (nq_m (n := 35) rfl) sub_n)))) (by decide +kernel)
set_option maxRecDepth 100000 in
theorem gX10_event_X1_knows : GoodIn wsX10_event (wsV RX10 227 RX1 yX1_knows wsX1_knows) := goodIn_app (goodIn_sub (sub_c (nq_m (n := 3) rfl) (sub_c (nq_m (n := 4) rfl) (sub_c (nq_m (n := 5) rfl) (sub_c (nq_m (n := 6) rfl) sub_n)))) (by decide +kernel)) ggX10_event_X1_knows
set_option maxRecDepth 100000 in
theorem ggX10_event_X10_within : GoodIn wsX10_event wsX10_within := goodIn_sub (sub_c (nq_m (n := 12) rfl) sub_n) (by decide +kernel)
set_option maxRecDepth 100000 in
theorem gX10_event_X10_within : GoodIn wsX10_event (va_wsS RX10 67 yX10_within wsX10_within) := goodIn_app (goodIn_sub (sub_c (nq_m (n := 9) rfl) (sub_c (nq_m (n := 10) rfl) (sub_c (nq_m (n := 11) rfl) sub_n))) (by decide +kernel)) ggX10_event_X10_within
set_option maxRecDepth 100000 in
theorem ggX10_event_X1_factOf : GoodIn wsX10_event wsX1_factOf := goodIn_sub (sub_c (nq_m (n := 16) rfl) (sub_c (nq_m (n := 17) rfl) (sub_c (nq_m (n := 18) rfl) (sub_c (nq_m (n := 4) rfl) (sub_c (nq_m (n := 5) rfl) (sub_c (nq_m (n := 6) rfl) (sub_c (nq_m (n := 7) rfl) (sub_c (nq_m (n := 8) rfl) (sub_c (nq_m (n := 10) rfl) (sub_c (nq_m (n := 11) rfl) (sub_c (nq_m (n := 12) rfl) (sub_c (nq_m (n := 34) rfl) (sub_c (nq_m (n := 35) rfl) sub_n))))))))))))) (by decide +kernel)
set_option maxRecDepth 100000 in
theorem gX10_event_X1_factOf : GoodIn wsX10_event (wsV RX10 228 RX1 yX1_factOf wsX1_factOf) := goodIn_app (goodIn_sub (sub_c (nq_m (n := 13) rfl) (sub_c (nq_m (n := 14) rfl) (sub_c (nq_m (n := 15) rfl) (sub_c (nq_m (n := 6) rfl) sub_n)))) (by decide +kernel)) ggX10_event_X1_factOf
noncomputable def dX10_event_0_l : List (Nat × Instr × Nat) := [(0, .aload_n 0, 1), (1, .getfield 26, 3), (4, .getfield 78, 3), (7, .iload_n 1, 1), (8, .invokevirtual 227, 3), (11, .ifCond .ne 7, 3), (14, .sipush (-1001), 3), (17, .ireturn, 1), (18, .iload_n 2, 1), (19, .iconst 0, 1), (20, .bipush 6, 2), (22, .invokestatic 67, 3), (25, .ifCond .ne 7, 3), (28, .sipush (-1002), 3), (31, .ireturn, 1), (32, .aload_n 0, 1), (33, .getfield 26, 3), (36, .getfield 78, 3), (39, .iload_n 1, 1), (40, .iload_n 2, 1), (41, .invokevirtual 228, 3), (44, .ireturn, 1)]
set_option maxRecDepth 100000 in
theorem dX10_event_0_g : dX10_event_0_l.all (fun x => decide (decode cX10_event x.1 = .ok x.2)) = true := by decide +kernel
theorem dX10_event_0 : decode cX10_event 0 = .ok (.aload_n 0, 1) := nq_d dX10_event_0_g (n := 0) rfl
theorem dX10_event_1 : decode cX10_event 1 = .ok (.getfield 26, 3) := nq_d dX10_event_0_g (n := 1) rfl
theorem dX10_event_4 : decode cX10_event 4 = .ok (.getfield 78, 3) := nq_d dX10_event_0_g (n := 2) rfl
theorem dX10_event_7 : decode cX10_event 7 = .ok (.iload_n 1, 1) := nq_d dX10_event_0_g (n := 3) rfl
theorem dX10_event_8 : decode cX10_event 8 = .ok (.invokevirtual 227, 3) := nq_d dX10_event_0_g (n := 4) rfl
theorem dX10_event_11 : decode cX10_event 11 = .ok (.ifCond .ne 7, 3) := nq_d dX10_event_0_g (n := 5) rfl
theorem dX10_event_14 : decode cX10_event 14 = .ok (.sipush (-1001), 3) := nq_d dX10_event_0_g (n := 6) rfl
theorem dX10_event_17 : decode cX10_event 17 = .ok (.ireturn, 1) := nq_d dX10_event_0_g (n := 7) rfl
theorem dX10_event_18 : decode cX10_event 18 = .ok (.iload_n 2, 1) := nq_d dX10_event_0_g (n := 8) rfl
theorem dX10_event_19 : decode cX10_event 19 = .ok (.iconst 0, 1) := nq_d dX10_event_0_g (n := 9) rfl
theorem dX10_event_20 : decode cX10_event 20 = .ok (.bipush 6, 2) := nq_d dX10_event_0_g (n := 10) rfl
theorem dX10_event_22 : decode cX10_event 22 = .ok (.invokestatic 67, 3) := nq_d dX10_event_0_g (n := 11) rfl
theorem dX10_event_25 : decode cX10_event 25 = .ok (.ifCond .ne 7, 3) := nq_d dX10_event_0_g (n := 12) rfl
theorem dX10_event_28 : decode cX10_event 28 = .ok (.sipush (-1002), 3) := nq_d dX10_event_0_g (n := 13) rfl
theorem dX10_event_31 : decode cX10_event 31 = .ok (.ireturn, 1) := nq_d dX10_event_0_g (n := 14) rfl
theorem dX10_event_32 : decode cX10_event 32 = .ok (.aload_n 0, 1) := nq_d dX10_event_0_g (n := 15) rfl
theorem dX10_event_33 : decode cX10_event 33 = .ok (.getfield 26, 3) := nq_d dX10_event_0_g (n := 16) rfl
theorem dX10_event_36 : decode cX10_event 36 = .ok (.getfield 78, 3) := nq_d dX10_event_0_g (n := 17) rfl
theorem dX10_event_39 : decode cX10_event 39 = .ok (.iload_n 1, 1) := nq_d dX10_event_0_g (n := 18) rfl
theorem dX10_event_40 : decode cX10_event 40 = .ok (.iload_n 2, 1) := nq_d dX10_event_0_g (n := 19) rfl
theorem dX10_event_41 : decode cX10_event 41 = .ok (.invokevirtual 228, 3) := nq_d dX10_event_0_g (n := 20) rfl
theorem dX10_event_44 : decode cX10_event 44 = .ok (.ireturn, 1) := nq_d dX10_event_0_g (n := 21) rfl
set_option maxRecDepth 100000 in
theorem ggX10_astray_X2_isAstray : GoodIn wsX10_astray wsX2_isAstray := goodIn_sub (sub_c (nq_m (n := 8) rfl) (sub_c (nq_m (n := 9) rfl) (sub_c (nq_m (n := 10) rfl) (sub_c (nq_m (n := 11) rfl) (sub_c (nq_m (n := 12) rfl) (sub_c (nq_m (n := 7) rfl) (sub_c (nq_m (n := 13) rfl) (sub_c (nq_m (n := 14) rfl) (sub_c (nq_m (n := 30) rfl) (sub_c (nq_m (n := 31) rfl) (sub_c (nq_m (n := 32) rfl) (sub_c (nq_m (n := 33) rfl) (sub_c (nq_m (n := 34) rfl) (sub_c (nq_m (n := 35) rfl) (sub_c (nq_m (n := 36) rfl) (sub_c (nq_m (n := 37) rfl) sub_n)))))))))))))))) (by decide +kernel)
set_option maxRecDepth 100000 in
theorem gX10_astray_X2_isAstray : GoodIn wsX10_astray (wsV RX10 231 RX2 yX2_isAstray wsX2_isAstray) := goodIn_app (goodIn_sub (sub_c (nq_m (n := 4) rfl) (sub_c (nq_m (n := 5) rfl) (sub_c (nq_m (n := 6) rfl) (sub_c (nq_m (n := 7) rfl) sub_n)))) (by decide +kernel)) ggX10_astray_X2_isAstray
noncomputable def dX10_astray_0_l : List (Nat × Instr × Nat) := [(0, .iconst 0, 1), (1, .istore_n 1, 1), (2, .iconst 0, 1), (3, .istore_n 2, 1), (4, .iload_n 2, 1), (5, .aload_n 0, 1), (6, .getfield 26, 3), (9, .getfield 116, 3), (12, .getfield 130, 3), (15, .if_icmp .ge 29, 3), (18, .aload_n 0, 1), (19, .getfield 26, 3), (22, .getfield 116, 3), (25, .iload_n 2, 1), (26, .invokevirtual 231, 3), (29, .ifCond .eq 9, 3), (32, .iload_n 1, 1), (33, .iconst 1, 1), (34, .iload_n 2, 1), (35, .ishl, 1), (36, .ior, 1), (37, .istore_n 1, 1), (38, .iinc 2 1, 3), (41, .goto (-37), 3), (44, .iload_n 1, 1), (45, .ireturn, 1)]
set_option maxRecDepth 100000 in
theorem dX10_astray_0_g : dX10_astray_0_l.all (fun x => decide (decode cX10_astray x.1 = .ok x.2)) = true := by decide +kernel
theorem dX10_astray_0 : decode cX10_astray 0 = .ok (.iconst 0, 1) := nq_d dX10_astray_0_g (n := 0) rfl
theorem dX10_astray_1 : decode cX10_astray 1 = .ok (.istore_n 1, 1) := nq_d dX10_astray_0_g (n := 1) rfl
theorem dX10_astray_2 : decode cX10_astray 2 = .ok (.iconst 0, 1) := nq_d dX10_astray_0_g (n := 2) rfl
theorem dX10_astray_3 : decode cX10_astray 3 = .ok (.istore_n 2, 1) := nq_d dX10_astray_0_g (n := 3) rfl
theorem dX10_astray_4 : decode cX10_astray 4 = .ok (.iload_n 2, 1) := nq_d dX10_astray_0_g (n := 4) rfl
theorem dX10_astray_5 : decode cX10_astray 5 = .ok (.aload_n 0, 1) := nq_d dX10_astray_0_g (n := 5) rfl
theorem dX10_astray_6 : decode cX10_astray 6 = .ok (.getfield 26, 3) := nq_d dX10_astray_0_g (n := 6) rfl
theorem dX10_astray_9 : decode cX10_astray 9 = .ok (.getfield 116, 3) := nq_d dX10_astray_0_g (n := 7) rfl
theorem dX10_astray_12 : decode cX10_astray 12 = .ok (.getfield 130, 3) := nq_d dX10_astray_0_g (n := 8) rfl
theorem dX10_astray_15 : decode cX10_astray 15 = .ok (.if_icmp .ge 29, 3) := nq_d dX10_astray_0_g (n := 9) rfl
theorem dX10_astray_18 : decode cX10_astray 18 = .ok (.aload_n 0, 1) := nq_d dX10_astray_0_g (n := 10) rfl
theorem dX10_astray_19 : decode cX10_astray 19 = .ok (.getfield 26, 3) := nq_d dX10_astray_0_g (n := 11) rfl
theorem dX10_astray_22 : decode cX10_astray 22 = .ok (.getfield 116, 3) := nq_d dX10_astray_0_g (n := 12) rfl
theorem dX10_astray_25 : decode cX10_astray 25 = .ok (.iload_n 2, 1) := nq_d dX10_astray_0_g (n := 13) rfl
theorem dX10_astray_26 : decode cX10_astray 26 = .ok (.invokevirtual 231, 3) := nq_d dX10_astray_0_g (n := 14) rfl
theorem dX10_astray_29 : decode cX10_astray 29 = .ok (.ifCond .eq 9, 3) := nq_d dX10_astray_0_g (n := 15) rfl
theorem dX10_astray_32 : decode cX10_astray 32 = .ok (.iload_n 1, 1) := nq_d dX10_astray_0_g (n := 16) rfl
theorem dX10_astray_33 : decode cX10_astray 33 = .ok (.iconst 1, 1) := nq_d dX10_astray_0_g (n := 17) rfl
theorem dX10_astray_34 : decode cX10_astray 34 = .ok (.iload_n 2, 1) := nq_d dX10_astray_0_g (n := 18) rfl
theorem dX10_astray_35 : decode cX10_astray 35 = .ok (.ishl, 1) := nq_d dX10_astray_0_g (n := 19) rfl
theorem dX10_astray_36 : decode cX10_astray 36 = .ok (.ior, 1) := nq_d dX10_astray_0_g (n := 20) rfl
theorem dX10_astray_37 : decode cX10_astray 37 = .ok (.istore_n 1, 1) := nq_d dX10_astray_0_g (n := 21) rfl
theorem dX10_astray_38 : decode cX10_astray 38 = .ok (.iinc 2 1, 3) := nq_d dX10_astray_0_g (n := 22) rfl
theorem dX10_astray_41 : decode cX10_astray 41 = .ok (.goto (-37), 3) := nq_d dX10_astray_0_g (n := 23) rfl
theorem dX10_astray_44 : decode cX10_astray 44 = .ok (.iload_n 1, 1) := nq_d dX10_astray_0_g (n := 24) rfl
theorem dX10_astray_45 : decode cX10_astray 45 = .ok (.ireturn, 1) := nq_d dX10_astray_0_g (n := 25) rfl
set_option maxRecDepth 100000 in
theorem ggX10_chain_X2_knows : GoodIn wsX10_chain wsX2_knows := goodIn_sub (sub_c (nq_m (n := 7) rfl) (sub_c (nq_m (n := 8) rfl) (sub_c (nq_m (n := 42) rfl) (sub_c (nq_m (n := 43) rfl) (sub_c (nq_m (n := 44) rfl) (sub_c (nq_m (n := 45) rfl) (sub_c (nq_m (n := 46) rfl) (sub_c (nq_m (n := 47) rfl) (sub_c (nq_m (n := 48) rfl) (sub_c (nq_m (n := 49) rfl) sub_n)))))))))) (by decide +kernel)
set_option maxRecDepth 100000 in
theorem gX10_chain_X2_knows : GoodIn wsX10_chain (wsV RX10 158 RX2 yX2_knows wsX2_knows) := goodIn_app (goodIn_sub (sub_c (nq_m (n := 3) rfl) (sub_c (nq_m (n := 4) rfl) (sub_c (nq_m (n := 5) rfl) (sub_c (nq_m (n := 6) rfl) sub_n)))) (by decide +kernel)) ggX10_chain_X2_knows
set_option maxRecDepth 100000 in
theorem ggX10_chain_X2_isAstray : GoodIn wsX10_chain wsX2_isAstray := goodIn_sub (sub_c (nq_m (n := 12) rfl) (sub_c (nq_m (n := 13) rfl) (sub_c (nq_m (n := 14) rfl) (sub_c (nq_m (n := 4) rfl) (sub_c (nq_m (n := 5) rfl) (sub_c (nq_m (n := 6) rfl) (sub_c (nq_m (n := 7) rfl) (sub_c (nq_m (n := 8) rfl) (sub_c (nq_m (n := 42) rfl) (sub_c (nq_m (n := 43) rfl) (sub_c (nq_m (n := 44) rfl) (sub_c (nq_m (n := 45) rfl) (sub_c (nq_m (n := 46) rfl) (sub_c (nq_m (n := 47) rfl) (sub_c (nq_m (n := 48) rfl) (sub_c (nq_m (n := 49) rfl) sub_n)))))))))))))))) (by decide +kernel)
set_option maxRecDepth 100000 in
theorem gX10_chain_X2_isAstray : GoodIn wsX10_chain (wsV RX10 231 RX2 yX2_isAstray wsX2_isAstray) := goodIn_app (goodIn_sub (sub_c (nq_m (n := 9) rfl) (sub_c (nq_m (n := 10) rfl) (sub_c (nq_m (n := 11) rfl) (sub_c (nq_m (n := 6) rfl) sub_n)))) (by decide +kernel)) ggX10_chain_X2_isAstray
set_option maxRecDepth 100000 in
theorem ggX10_chain_X2_chainLength : GoodIn wsX10_chain wsX2_chainLength := goodIn_sub (sub_c (nq_m (n := 18) rfl) (sub_c (nq_m (n := 19) rfl) (sub_c (nq_m (n := 20) rfl) (sub_c (nq_m (n := 21) rfl) (sub_c (nq_m (n := 6) rfl) (sub_c (nq_m (n := 22) rfl) (sub_c (nq_m (n := 13) rfl) (sub_c (nq_m (n := 14) rfl) (sub_c (nq_m (n := 4) rfl) (sub_c (nq_m (n := 5) rfl) (sub_c (nq_m (n := 7) rfl) (sub_c (nq_m (n := 8) rfl) (sub_c (nq_m (n := 42) rfl) (sub_c (nq_m (n := 43) rfl) (sub_c (nq_m (n := 44) rfl) (sub_c (nq_m (n := 45) rfl) (sub_c (nq_m (n := 46) rfl) (sub_c (nq_m (n := 47) rfl) (sub_c (nq_m (n := 48) rfl) (sub_c (nq_m (n := 49) rfl) sub_n)))))))))))))))))))) (by decide +kernel)
set_option maxRecDepth 100000 in
theorem gX10_chain_X2_chainLength : GoodIn wsX10_chain (wsV RX10 234 RX2 yX2_chainLength wsX2_chainLength) := goodIn_app (goodIn_sub (sub_c (nq_m (n := 15) rfl) (sub_c (nq_m (n := 16) rfl) (sub_c (nq_m (n := 17) rfl) (sub_c (nq_m (n := 6) rfl) sub_n)))) (by decide +kernel)) ggX10_chain_X2_chainLength
set_option maxRecDepth 100000 in
theorem ggX10_chain_X2_chainMember : GoodIn wsX10_chain wsX2_chainMember := goodIn_sub (sub_c (nq_m (n := 26) rfl) (sub_c (nq_m (n := 19) rfl) (sub_c (nq_m (n := 20) rfl) (sub_c (nq_m (n := 21) rfl) (sub_c (nq_m (n := 6) rfl) (sub_c (nq_m (n := 22) rfl) (sub_c (nq_m (n := 13) rfl) (sub_c (nq_m (n := 14) rfl) (sub_c (nq_m (n := 4) rfl) (sub_c (nq_m (n := 5) rfl) (sub_c (nq_m (n := 7) rfl) (sub_c (nq_m (n := 8) rfl) (sub_c (nq_m (n := 42) rfl) (sub_c (nq_m (n := 43) rfl) (sub_c (nq_m (n := 44) rfl) (sub_c (nq_m (n := 45) rfl) (sub_c (nq_m (n := 46) rfl) (sub_c (nq_m (n := 47) rfl) (sub_c (nq_m (n := 48) rfl) (sub_c (nq_m (n := 49) rfl) sub_n)))))))))))))))))))) (by decide +kernel)
set_option maxRecDepth 100000 in
theorem gX10_chain_X2_chainMember : GoodIn wsX10_chain (wsV RX10 237 RX2 yX2_chainMember wsX2_chainMember) := goodIn_app (goodIn_sub (sub_c (nq_m (n := 23) rfl) (sub_c (nq_m (n := 24) rfl) (sub_c (nq_m (n := 25) rfl) (sub_c (nq_m (n := 6) rfl) sub_n)))) (by decide +kernel)) ggX10_chain_X2_chainMember
noncomputable def dX10_chain_0_l : List (Nat × Instr × Nat) := [(0, .aload_n 0, 1), (1, .getfield 26, 3), (4, .getfield 116, 3), (7, .iload_n 1, 1), (8, .invokevirtual 158, 3), (11, .ifCond .ne 7, 3), (14, .sipush (-1001), 3), (17, .ireturn, 1), (18, .aload_n 0, 1), (19, .getfield 26, 3), (22, .getfield 116, 3), (25, .iload_n 1, 1), (26, .invokevirtual 231, 3), (29, .ifCond .ne 7, 3), (32, .sipush (-1003), 3), (35, .ireturn, 1), (36, .iload_n 2, 1), (37, .iconst (-1), 1), (38, .if_icmp .ne 17, 3), (41, .aload_n 0, 1), (42, .getfield 26, 3), (45, .getfield 116, 3), (48, .iload_n 1, 1), (49, .invokevirtual 234, 3), (52, .goto 15, 3), (55, .aload_n 0, 1), (56, .getfield 26, 3), (59, .getfield 116, 3), (62, .iload_n 1, 1), (63, .iload_n 2, 1), (64, .invokevirtual 237, 3), (67, .ireturn, 1)]
set_option maxRecDepth 100000 in
theorem dX10_chain_0_g : dX10_chain_0_l.all (fun x => decide (decode cX10_chain x.1 = .ok x.2)) = true := by decide +kernel
theorem dX10_chain_0 : decode cX10_chain 0 = .ok (.aload_n 0, 1) := nq_d dX10_chain_0_g (n := 0) rfl
theorem dX10_chain_1 : decode cX10_chain 1 = .ok (.getfield 26, 3) := nq_d dX10_chain_0_g (n := 1) rfl
theorem dX10_chain_4 : decode cX10_chain 4 = .ok (.getfield 116, 3) := nq_d dX10_chain_0_g (n := 2) rfl
theorem dX10_chain_7 : decode cX10_chain 7 = .ok (.iload_n 1, 1) := nq_d dX10_chain_0_g (n := 3) rfl
theorem dX10_chain_8 : decode cX10_chain 8 = .ok (.invokevirtual 158, 3) := nq_d dX10_chain_0_g (n := 4) rfl
theorem dX10_chain_11 : decode cX10_chain 11 = .ok (.ifCond .ne 7, 3) := nq_d dX10_chain_0_g (n := 5) rfl
theorem dX10_chain_14 : decode cX10_chain 14 = .ok (.sipush (-1001), 3) := nq_d dX10_chain_0_g (n := 6) rfl
theorem dX10_chain_17 : decode cX10_chain 17 = .ok (.ireturn, 1) := nq_d dX10_chain_0_g (n := 7) rfl
theorem dX10_chain_18 : decode cX10_chain 18 = .ok (.aload_n 0, 1) := nq_d dX10_chain_0_g (n := 8) rfl
theorem dX10_chain_19 : decode cX10_chain 19 = .ok (.getfield 26, 3) := nq_d dX10_chain_0_g (n := 9) rfl
theorem dX10_chain_22 : decode cX10_chain 22 = .ok (.getfield 116, 3) := nq_d dX10_chain_0_g (n := 10) rfl
theorem dX10_chain_25 : decode cX10_chain 25 = .ok (.iload_n 1, 1) := nq_d dX10_chain_0_g (n := 11) rfl
theorem dX10_chain_26 : decode cX10_chain 26 = .ok (.invokevirtual 231, 3) := nq_d dX10_chain_0_g (n := 12) rfl
theorem dX10_chain_29 : decode cX10_chain 29 = .ok (.ifCond .ne 7, 3) := nq_d dX10_chain_0_g (n := 13) rfl
theorem dX10_chain_32 : decode cX10_chain 32 = .ok (.sipush (-1003), 3) := nq_d dX10_chain_0_g (n := 14) rfl
theorem dX10_chain_35 : decode cX10_chain 35 = .ok (.ireturn, 1) := nq_d dX10_chain_0_g (n := 15) rfl
theorem dX10_chain_36 : decode cX10_chain 36 = .ok (.iload_n 2, 1) := nq_d dX10_chain_0_g (n := 16) rfl
theorem dX10_chain_37 : decode cX10_chain 37 = .ok (.iconst (-1), 1) := nq_d dX10_chain_0_g (n := 17) rfl
theorem dX10_chain_38 : decode cX10_chain 38 = .ok (.if_icmp .ne 17, 3) := nq_d dX10_chain_0_g (n := 18) rfl
theorem dX10_chain_41 : decode cX10_chain 41 = .ok (.aload_n 0, 1) := nq_d dX10_chain_0_g (n := 19) rfl
theorem dX10_chain_42 : decode cX10_chain 42 = .ok (.getfield 26, 3) := nq_d dX10_chain_0_g (n := 20) rfl
theorem dX10_chain_45 : decode cX10_chain 45 = .ok (.getfield 116, 3) := nq_d dX10_chain_0_g (n := 21) rfl
theorem dX10_chain_48 : decode cX10_chain 48 = .ok (.iload_n 1, 1) := nq_d dX10_chain_0_g (n := 22) rfl
theorem dX10_chain_49 : decode cX10_chain 49 = .ok (.invokevirtual 234, 3) := nq_d dX10_chain_0_g (n := 23) rfl
theorem dX10_chain_52 : decode cX10_chain 52 = .ok (.goto 15, 3) := nq_d dX10_chain_0_g (n := 24) rfl
theorem dX10_chain_55 : decode cX10_chain 55 = .ok (.aload_n 0, 1) := nq_d dX10_chain_0_g (n := 25) rfl
theorem dX10_chain_56 : decode cX10_chain 56 = .ok (.getfield 26, 3) := nq_d dX10_chain_0_g (n := 26) rfl
theorem dX10_chain_59 : decode cX10_chain 59 = .ok (.getfield 116, 3) := nq_d dX10_chain_0_g (n := 27) rfl
theorem dX10_chain_62 : decode cX10_chain 62 = .ok (.iload_n 1, 1) := nq_d dX10_chain_0_g (n := 28) rfl
theorem dX10_chain_63 : decode cX10_chain 63 = .ok (.iload_n 2, 1) := nq_d dX10_chain_0_g (n := 29) rfl
theorem dX10_chain_64 : decode cX10_chain 64 = .ok (.invokevirtual 237, 3) := nq_d dX10_chain_0_g (n := 30) rfl
theorem dX10_chain_67 : decode cX10_chain 67 = .ok (.ireturn, 1) := nq_d dX10_chain_0_g (n := 31) rfl
set_option maxRecDepth 100000 in
theorem ggX10_ring_X2_knows : GoodIn wsX10_ring wsX2_knows := goodIn_sub (sub_c (nq_m (n := 7) rfl) (sub_c (nq_m (n := 8) rfl) (sub_c (nq_m (n := 46) rfl) (sub_c (nq_m (n := 47) rfl) (sub_c (nq_m (n := 48) rfl) (sub_c (nq_m (n := 49) rfl) (sub_c (nq_m (n := 50) rfl) (sub_c (nq_m (n := 51) rfl) (sub_c (nq_m (n := 52) rfl) (sub_c (nq_m (n := 53) rfl) sub_n)))))))))) (by decide +kernel)
set_option maxRecDepth 100000 in
theorem gX10_ring_X2_knows : GoodIn wsX10_ring (wsV RX10 158 RX2 yX2_knows wsX2_knows) := goodIn_app (goodIn_sub (sub_c (nq_m (n := 3) rfl) (sub_c (nq_m (n := 4) rfl) (sub_c (nq_m (n := 5) rfl) (sub_c (nq_m (n := 6) rfl) sub_n)))) (by decide +kernel)) ggX10_ring_X2_knows
set_option maxRecDepth 100000 in
theorem ggX10_ring_X2_isAstray : GoodIn wsX10_ring wsX2_isAstray := goodIn_sub (sub_c (nq_m (n := 12) rfl) (sub_c (nq_m (n := 13) rfl) (sub_c (nq_m (n := 14) rfl) (sub_c (nq_m (n := 4) rfl) (sub_c (nq_m (n := 5) rfl) (sub_c (nq_m (n := 6) rfl) (sub_c (nq_m (n := 7) rfl) (sub_c (nq_m (n := 8) rfl) (sub_c (nq_m (n := 46) rfl) (sub_c (nq_m (n := 47) rfl) (sub_c (nq_m (n := 48) rfl) (sub_c (nq_m (n := 49) rfl) (sub_c (nq_m (n := 50) rfl) (sub_c (nq_m (n := 51) rfl) (sub_c (nq_m (n := 52) rfl) (sub_c (nq_m (n := 53) rfl) sub_n)))))))))))))))) (by decide +kernel)
set_option maxRecDepth 100000 in
theorem gX10_ring_X2_isAstray : GoodIn wsX10_ring (wsV RX10 231 RX2 yX2_isAstray wsX2_isAstray) := goodIn_app (goodIn_sub (sub_c (nq_m (n := 9) rfl) (sub_c (nq_m (n := 10) rfl) (sub_c (nq_m (n := 11) rfl) (sub_c (nq_m (n := 6) rfl) sub_n)))) (by decide +kernel)) ggX10_ring_X2_isAstray
set_option maxRecDepth 100000 in
theorem ggX10_ring_X2_comesRound : GoodIn wsX10_ring wsX2_comesRound := goodIn_sub (sub_c (nq_m (n := 18) rfl) (sub_c (nq_m (n := 13) rfl) (sub_c (nq_m (n := 19) rfl) (sub_c (nq_m (n := 20) rfl) (sub_c (nq_m (n := 21) rfl) (sub_c (nq_m (n := 6) rfl) (sub_c (nq_m (n := 22) rfl) (sub_c (nq_m (n := 23) rfl) (sub_c (nq_m (n := 24) rfl) (sub_c (nq_m (n := 25) rfl) (sub_c (nq_m (n := 26) rfl) (sub_c (nq_m (n := 14) rfl) (sub_c (nq_m (n := 4) rfl) (sub_c (nq_m (n := 5) rfl) (sub_c (nq_m (n := 7) rfl) (sub_c (nq_m (n := 8) rfl) (sub_c (nq_m (n := 27) rfl) (sub_c (nq_m (n := 28) rfl) (sub_c (nq_m (n := 29) rfl) (sub_c (nq_m (n := 30) rfl) (sub_c (nq_m (n := 46) rfl) (sub_c (nq_m (n := 47) rfl) (sub_c (nq_m (n := 48) rfl) (sub_c (nq_m (n := 49) rfl) (sub_c (nq_m (n := 50) rfl) (sub_c (nq_m (n := 51) rfl) (sub_c (nq_m (n := 52) rfl) (sub_c (nq_m (n := 53) rfl) sub_n)))))))))))))))))))))))))))) (by decide +kernel)
set_option maxRecDepth 100000 in
theorem gX10_ring_X2_comesRound : GoodIn wsX10_ring (wsV RX10 240 RX2 yX2_comesRound wsX2_comesRound) := goodIn_app (goodIn_sub (sub_c (nq_m (n := 15) rfl) (sub_c (nq_m (n := 16) rfl) (sub_c (nq_m (n := 17) rfl) (sub_c (nq_m (n := 6) rfl) sub_n)))) (by decide +kernel)) ggX10_ring_X2_comesRound
noncomputable def dX10_ring_0_l : List (Nat × Instr × Nat) := [(0, .aload_n 0, 1), (1, .getfield 26, 3), (4, .getfield 116, 3), (7, .iload_n 1, 1), (8, .invokevirtual 158, 3), (11, .ifCond .ne 7, 3), (14, .sipush (-1001), 3), (17, .ireturn, 1), (18, .aload_n 0, 1), (19, .getfield 26, 3), (22, .getfield 116, 3), (25, .iload_n 1, 1), (26, .invokevirtual 231, 3), (29, .ifCond .ne 7, 3), (32, .sipush (-1003), 3), (35, .ireturn, 1), (36, .aload_n 0, 1), (37, .getfield 26, 3), (40, .getfield 116, 3), (43, .iload_n 1, 1), (44, .invokevirtual 240, 3), (47, .ifCond .eq 7, 3), (50, .iconst 1, 1), (51, .goto 4, 3), (54, .iconst 0, 1), (55, .ireturn, 1)]
set_option maxRecDepth 100000 in
theorem dX10_ring_0_g : dX10_ring_0_l.all (fun x => decide (decode cX10_ring x.1 = .ok x.2)) = true := by decide +kernel
theorem dX10_ring_0 : decode cX10_ring 0 = .ok (.aload_n 0, 1) := nq_d dX10_ring_0_g (n := 0) rfl
theorem dX10_ring_1 : decode cX10_ring 1 = .ok (.getfield 26, 3) := nq_d dX10_ring_0_g (n := 1) rfl
theorem dX10_ring_4 : decode cX10_ring 4 = .ok (.getfield 116, 3) := nq_d dX10_ring_0_g (n := 2) rfl
theorem dX10_ring_7 : decode cX10_ring 7 = .ok (.iload_n 1, 1) := nq_d dX10_ring_0_g (n := 3) rfl
theorem dX10_ring_8 : decode cX10_ring 8 = .ok (.invokevirtual 158, 3) := nq_d dX10_ring_0_g (n := 4) rfl
theorem dX10_ring_11 : decode cX10_ring 11 = .ok (.ifCond .ne 7, 3) := nq_d dX10_ring_0_g (n := 5) rfl
theorem dX10_ring_14 : decode cX10_ring 14 = .ok (.sipush (-1001), 3) := nq_d dX10_ring_0_g (n := 6) rfl
theorem dX10_ring_17 : decode cX10_ring 17 = .ok (.ireturn, 1) := nq_d dX10_ring_0_g (n := 7) rfl
theorem dX10_ring_18 : decode cX10_ring 18 = .ok (.aload_n 0, 1) := nq_d dX10_ring_0_g (n := 8) rfl
theorem dX10_ring_19 : decode cX10_ring 19 = .ok (.getfield 26, 3) := nq_d dX10_ring_0_g (n := 9) rfl
theorem dX10_ring_22 : decode cX10_ring 22 = .ok (.getfield 116, 3) := nq_d dX10_ring_0_g (n := 10) rfl
theorem dX10_ring_25 : decode cX10_ring 25 = .ok (.iload_n 1, 1) := nq_d dX10_ring_0_g (n := 11) rfl
theorem dX10_ring_26 : decode cX10_ring 26 = .ok (.invokevirtual 231, 3) := nq_d dX10_ring_0_g (n := 12) rfl
theorem dX10_ring_29 : decode cX10_ring 29 = .ok (.ifCond .ne 7, 3) := nq_d dX10_ring_0_g (n := 13) rfl
theorem dX10_ring_32 : decode cX10_ring 32 = .ok (.sipush (-1003), 3) := nq_d dX10_ring_0_g (n := 14) rfl
theorem dX10_ring_35 : decode cX10_ring 35 = .ok (.ireturn, 1) := nq_d dX10_ring_0_g (n := 15) rfl
theorem dX10_ring_36 : decode cX10_ring 36 = .ok (.aload_n 0, 1) := nq_d dX10_ring_0_g (n := 16) rfl
theorem dX10_ring_37 : decode cX10_ring 37 = .ok (.getfield 26, 3) := nq_d dX10_ring_0_g (n := 17) rfl
theorem dX10_ring_40 : decode cX10_ring 40 = .ok (.getfield 116, 3) := nq_d dX10_ring_0_g (n := 18) rfl
theorem dX10_ring_43 : decode cX10_ring 43 = .ok (.iload_n 1, 1) := nq_d dX10_ring_0_g (n := 19) rfl
theorem dX10_ring_44 : decode cX10_ring 44 = .ok (.invokevirtual 240, 3) := nq_d dX10_ring_0_g (n := 20) rfl
theorem dX10_ring_47 : decode cX10_ring 47 = .ok (.ifCond .eq 7, 3) := nq_d dX10_ring_0_g (n := 21) rfl
theorem dX10_ring_50 : decode cX10_ring 50 = .ok (.iconst 1, 1) := nq_d dX10_ring_0_g (n := 22) rfl
theorem dX10_ring_51 : decode cX10_ring 51 = .ok (.goto 4, 3) := nq_d dX10_ring_0_g (n := 23) rfl
theorem dX10_ring_54 : decode cX10_ring 54 = .ok (.iconst 0, 1) := nq_d dX10_ring_0_g (n := 24) rfl
theorem dX10_ring_55 : decode cX10_ring 55 = .ok (.ireturn, 1) := nq_d dX10_ring_0_g (n := 25) rfl
set_option maxRecDepth 100000 in
theorem ggX10_exchanges_X2_isAstray : GoodIn wsX10_exchanges wsX2_isAstray := goodIn_sub (sub_c (nq_m (n := 8) rfl) (sub_c (nq_m (n := 9) rfl) (sub_c (nq_m (n := 10) rfl) (sub_c (nq_m (n := 11) rfl) (sub_c (nq_m (n := 12) rfl) (sub_c (nq_m (n := 7) rfl) (sub_c (nq_m (n := 13) rfl) (sub_c (nq_m (n := 14) rfl) (sub_c (nq_m (n := 51) rfl) (sub_c (nq_m (n := 52) rfl) (sub_c (nq_m (n := 53) rfl) (sub_c (nq_m (n := 54) rfl) (sub_c (nq_m (n := 55) rfl) (sub_c (nq_m (n := 56) rfl) (sub_c (nq_m (n := 57) rfl) (sub_c (nq_m (n := 58) rfl) sub_n)))))))))))))))) (by decide +kernel)
set_option maxRecDepth 100000 in
theorem gX10_exchanges_X2_isAstray : GoodIn wsX10_exchanges (wsV RX10 231 RX2 yX2_isAstray wsX2_isAstray) := goodIn_app (goodIn_sub (sub_c (nq_m (n := 4) rfl) (sub_c (nq_m (n := 5) rfl) (sub_c (nq_m (n := 6) rfl) (sub_c (nq_m (n := 7) rfl) sub_n)))) (by decide +kernel)) ggX10_exchanges_X2_isAstray
set_option maxRecDepth 100000 in
theorem ggX10_exchanges_X2_isLeastOfRing : GoodIn wsX10_exchanges wsX2_isLeastOfRing := goodIn_sub (sub_c (nq_m (n := 18) rfl) (sub_c (nq_m (n := 19) rfl) (sub_c (nq_m (n := 5) rfl) (sub_c (nq_m (n := 6) rfl) (sub_c (nq_m (n := 7) rfl) (sub_c (nq_m (n := 8) rfl) (sub_c (nq_m (n := 9) rfl) (sub_c (nq_m (n := 10) rfl) (sub_c (nq_m (n := 11) rfl) (sub_c (nq_m (n := 12) rfl) (sub_c (nq_m (n := 13) rfl) (sub_c (nq_m (n := 14) rfl) (sub_c (nq_m (n := 20) rfl) (sub_c (nq_m (n := 21) rfl) (sub_c (nq_m (n := 22) rfl) (sub_c (nq_m (n := 23) rfl) (sub_c (nq_m (n := 24) rfl) (sub_c (nq_m (n := 25) rfl) (sub_c (nq_m (n := 26) rfl) (sub_c (nq_m (n := 27) rfl) (sub_c (nq_m (n := 28) rfl) (sub_c (nq_m (n := 29) rfl) (sub_c (nq_m (n := 30) rfl) (sub_c (nq_m (n := 31) rfl) (sub_c (nq_m (n := 32) rfl) (sub_c (nq_m (n := 33) rfl) (sub_c (nq_m (n := 34) rfl) (sub_c (nq_m (n := 35) rfl) (sub_c (nq_m (n := 51) rfl) (sub_c (nq_m (n := 52) rfl) (sub_c (nq_m (n := 53) rfl) (sub_c (nq_m (n := 54) rfl) (sub_c (nq_m (n := 55) rfl) (sub_c (nq_m (n := 56) rfl) (sub_c (nq_m (n := 57) rfl) (sub_c (nq_m (n := 58) rfl) sub_n)))))))))))))))))))))))))))))))))))) (by decide +kernel)
set_option maxRecDepth 100000 in
theorem gX10_exchanges_X2_isLeastOfRing : GoodIn wsX10_exchanges (wsV RX10 243 RX2 yX2_isLeastOfRing wsX2_isLeastOfRing) := goodIn_app (goodIn_sub (sub_c (nq_m (n := 15) rfl) (sub_c (nq_m (n := 16) rfl) (sub_c (nq_m (n := 17) rfl) (sub_c (nq_m (n := 7) rfl) sub_n)))) (by decide +kernel)) ggX10_exchanges_X2_isLeastOfRing
noncomputable def dX10_exchanges_0_l : List (Nat × Instr × Nat) := [(0, .iconst 0, 1), (1, .istore_n 1, 1), (2, .iconst 0, 1), (3, .istore_n 2, 1), (4, .iload_n 2, 1), (5, .aload_n 0, 1), (6, .getfield 26, 3), (9, .getfield 116, 3), (12, .getfield 130, 3), (15, .if_icmp .ge 43, 3), (18, .aload_n 0, 1), (19, .getfield 26, 3), (22, .getfield 116, 3), (25, .iload_n 2, 1), (26, .invokevirtual 231, 3), (29, .ifCond .eq 6, 3), (32, .iinc 1 1, 3), (35, .aload_n 0, 1), (36, .getfield 26, 3), (39, .getfield 116, 3), (42, .iload_n 2, 1), (43, .invokevirtual 243, 3), (46, .ifCond .eq 6, 3), (49, .iinc 1 (-1), 3), (52, .iinc 2 1, 3), (55, .goto (-51), 3), (58, .iload_n 1, 1), (59, .ireturn, 1)]
set_option maxRecDepth 100000 in
theorem dX10_exchanges_0_g : dX10_exchanges_0_l.all (fun x => decide (decode cX10_exchanges x.1 = .ok x.2)) = true := by decide +kernel
theorem dX10_exchanges_0 : decode cX10_exchanges 0 = .ok (.iconst 0, 1) := nq_d dX10_exchanges_0_g (n := 0) rfl
theorem dX10_exchanges_1 : decode cX10_exchanges 1 = .ok (.istore_n 1, 1) := nq_d dX10_exchanges_0_g (n := 1) rfl
theorem dX10_exchanges_2 : decode cX10_exchanges 2 = .ok (.iconst 0, 1) := nq_d dX10_exchanges_0_g (n := 2) rfl
theorem dX10_exchanges_3 : decode cX10_exchanges 3 = .ok (.istore_n 2, 1) := nq_d dX10_exchanges_0_g (n := 3) rfl
theorem dX10_exchanges_4 : decode cX10_exchanges 4 = .ok (.iload_n 2, 1) := nq_d dX10_exchanges_0_g (n := 4) rfl
theorem dX10_exchanges_5 : decode cX10_exchanges 5 = .ok (.aload_n 0, 1) := nq_d dX10_exchanges_0_g (n := 5) rfl
theorem dX10_exchanges_6 : decode cX10_exchanges 6 = .ok (.getfield 26, 3) := nq_d dX10_exchanges_0_g (n := 6) rfl
theorem dX10_exchanges_9 : decode cX10_exchanges 9 = .ok (.getfield 116, 3) := nq_d dX10_exchanges_0_g (n := 7) rfl
theorem dX10_exchanges_12 : decode cX10_exchanges 12 = .ok (.getfield 130, 3) := nq_d dX10_exchanges_0_g (n := 8) rfl
theorem dX10_exchanges_15 : decode cX10_exchanges 15 = .ok (.if_icmp .ge 43, 3) := nq_d dX10_exchanges_0_g (n := 9) rfl
theorem dX10_exchanges_18 : decode cX10_exchanges 18 = .ok (.aload_n 0, 1) := nq_d dX10_exchanges_0_g (n := 10) rfl
theorem dX10_exchanges_19 : decode cX10_exchanges 19 = .ok (.getfield 26, 3) := nq_d dX10_exchanges_0_g (n := 11) rfl
theorem dX10_exchanges_22 : decode cX10_exchanges 22 = .ok (.getfield 116, 3) := nq_d dX10_exchanges_0_g (n := 12) rfl
theorem dX10_exchanges_25 : decode cX10_exchanges 25 = .ok (.iload_n 2, 1) := nq_d dX10_exchanges_0_g (n := 13) rfl
theorem dX10_exchanges_26 : decode cX10_exchanges 26 = .ok (.invokevirtual 231, 3) := nq_d dX10_exchanges_0_g (n := 14) rfl
theorem dX10_exchanges_29 : decode cX10_exchanges 29 = .ok (.ifCond .eq 6, 3) := nq_d dX10_exchanges_0_g (n := 15) rfl
theorem dX10_exchanges_32 : decode cX10_exchanges 32 = .ok (.iinc 1 1, 3) := nq_d dX10_exchanges_0_g (n := 16) rfl
theorem dX10_exchanges_35 : decode cX10_exchanges 35 = .ok (.aload_n 0, 1) := nq_d dX10_exchanges_0_g (n := 17) rfl
theorem dX10_exchanges_36 : decode cX10_exchanges 36 = .ok (.getfield 26, 3) := nq_d dX10_exchanges_0_g (n := 18) rfl
theorem dX10_exchanges_39 : decode cX10_exchanges 39 = .ok (.getfield 116, 3) := nq_d dX10_exchanges_0_g (n := 19) rfl
theorem dX10_exchanges_42 : decode cX10_exchanges 42 = .ok (.iload_n 2, 1) := nq_d dX10_exchanges_0_g (n := 20) rfl
theorem dX10_exchanges_43 : decode cX10_exchanges 43 = .ok (.invokevirtual 243, 3) := nq_d dX10_exchanges_0_g (n := 21) rfl
theorem dX10_exchanges_46 : decode cX10_exchanges 46 = .ok (.ifCond .eq 6, 3) := nq_d dX10_exchanges_0_g (n := 22) rfl
theorem dX10_exchanges_49 : decode cX10_exchanges 49 = .ok (.iinc 1 (-1), 3) := nq_d dX10_exchanges_0_g (n := 23) rfl
theorem dX10_exchanges_52 : decode cX10_exchanges 52 = .ok (.iinc 2 1, 3) := nq_d dX10_exchanges_0_g (n := 24) rfl
theorem dX10_exchanges_55 : decode cX10_exchanges 55 = .ok (.goto (-51), 3) := nq_d dX10_exchanges_0_g (n := 25) rfl
theorem dX10_exchanges_58 : decode cX10_exchanges 58 = .ok (.iload_n 1, 1) := nq_d dX10_exchanges_0_g (n := 26) rfl
theorem dX10_exchanges_59 : decode cX10_exchanges 59 = .ok (.ireturn, 1) := nq_d dX10_exchanges_0_g (n := 27) rfl
set_option maxRecDepth 100000 in
theorem ggX10_wrong_X2_knows : GoodIn wsX10_wrong wsX2_knows := goodIn_sub (sub_c (nq_m (n := 8) rfl) (sub_c (nq_m (n := 9) rfl) (sub_c (nq_m (n := 53) rfl) (sub_c (nq_m (n := 54) rfl) (sub_c (nq_m (n := 55) rfl) (sub_c (nq_m (n := 56) rfl) (sub_c (nq_m (n := 57) rfl) (sub_c (nq_m (n := 58) rfl) (sub_c (nq_m (n := 59) rfl) (sub_c (nq_m (n := 60) rfl) sub_n)))))))))) (by decide +kernel)
set_option maxRecDepth 100000 in
theorem gX10_wrong_X2_knows : GoodIn wsX10_wrong (wsV RX10 158 RX2 yX2_knows wsX2_knows) := goodIn_app (goodIn_sub (sub_c (nq_m (n := 4) rfl) (sub_c (nq_m (n := 5) rfl) (sub_c (nq_m (n := 6) rfl) (sub_c (nq_m (n := 7) rfl) sub_n)))) (by decide +kernel)) ggX10_wrong_X2_knows
set_option maxRecDepth 100000 in
theorem ggX10_wrong_X10_within : GoodIn wsX10_wrong wsX10_within := goodIn_sub (sub_c (nq_m (n := 13) rfl) sub_n) (by decide +kernel)
set_option maxRecDepth 100000 in
theorem gX10_wrong_X10_within : GoodIn wsX10_wrong (va_wsS RX10 67 yX10_within wsX10_within) := goodIn_app (goodIn_sub (sub_c (nq_m (n := 10) rfl) (sub_c (nq_m (n := 11) rfl) (sub_c (nq_m (n := 12) rfl) sub_n))) (by decide +kernel)) ggX10_wrong_X10_within
set_option maxRecDepth 100000 in
theorem ggX10_wrong_X1_firstWrong : GoodIn wsX10_wrong wsX1_firstWrong := goodIn_sub (sub_c (nq_m (n := 18) rfl) (sub_c (nq_m (n := 19) rfl) (sub_c (nq_m (n := 20) rfl) (sub_c (nq_m (n := 21) rfl) (sub_c (nq_m (n := 17) rfl) (sub_c (nq_m (n := 22) rfl) (sub_c (nq_m (n := 23) rfl) (sub_c (nq_m (n := 24) rfl) (sub_c (nq_m (n := 25) rfl) (sub_c (nq_m (n := 26) rfl) (sub_c (nq_m (n := 27) rfl) (sub_c (nq_m (n := 28) rfl) (sub_c (nq_m (n := 29) rfl) (sub_c (nq_m (n := 30) rfl) (sub_c (nq_m (n := 31) rfl) (sub_c (nq_m (n := 32) rfl) (sub_c (nq_m (n := 11) rfl) (sub_c (nq_m (n := 12) rfl) (sub_c (nq_m (n := 13) rfl) (sub_c (nq_m (n := 33) rfl) (sub_c (nq_m (n := 34) rfl) (sub_c (nq_m (n := 35) rfl) (sub_c (nq_m (n := 36) rfl) (sub_c (nq_m (n := 61) rfl) (sub_c (nq_m (n := 62) rfl) sub_n))))))))))))))))))))))))) (by decide +kernel)
set_option maxRecDepth 100000 in
theorem gX10_wrong_X1_firstWrong : GoodIn wsX10_wrong (wsV RX10 246 RX1 yX1_firstWrong wsX1_firstWrong) := goodIn_app (goodIn_sub (sub_c (nq_m (n := 14) rfl) (sub_c (nq_m (n := 15) rfl) (sub_c (nq_m (n := 16) rfl) (sub_c (nq_m (n := 17) rfl) sub_n)))) (by decide +kernel)) ggX10_wrong_X1_firstWrong
set_option maxRecDepth 100000 in
theorem ggX10_wrong_X1_factOf : GoodIn wsX10_wrong wsX1_factOf := goodIn_sub (sub_c (nq_m (n := 27) rfl) (sub_c (nq_m (n := 28) rfl) (sub_c (nq_m (n := 29) rfl) (sub_c (nq_m (n := 30) rfl) (sub_c (nq_m (n := 31) rfl) (sub_c (nq_m (n := 17) rfl) (sub_c (nq_m (n := 32) rfl) (sub_c (nq_m (n := 23) rfl) (sub_c (nq_m (n := 11) rfl) (sub_c (nq_m (n := 12) rfl) (sub_c (nq_m (n := 13) rfl) (sub_c (nq_m (n := 61) rfl) (sub_c (nq_m (n := 62) rfl) sub_n))))))))))))) (by decide +kernel)
set_option maxRecDepth 100000 in
theorem gX10_wrong_X1_factOf : GoodIn wsX10_wrong (wsV RX10 228 RX1 yX1_factOf wsX1_factOf) := goodIn_app (goodIn_sub (sub_c (nq_m (n := 37) rfl) (sub_c (nq_m (n := 25) rfl) (sub_c (nq_m (n := 26) rfl) (sub_c (nq_m (n := 17) rfl) sub_n)))) (by decide +kernel)) ggX10_wrong_X1_factOf
noncomputable def dX10_wrong_0_l : List (Nat × Instr × Nat) := [(0, .aload_n 0, 1), (1, .getfield 26, 3), (4, .getfield 116, 3), (7, .iload_n 1, 1), (8, .invokevirtual 158, 3), (11, .ifCond .ne 7, 3), (14, .sipush (-1001), 3), (17, .ireturn, 1), (18, .iload_n 2, 1), (19, .iconst 0, 1), (20, .iconst 1, 1), (21, .invokestatic 67, 3), (24, .ifCond .ne 7, 3), (27, .sipush (-1002), 3), (30, .ireturn, 1), (31, .aload_n 0, 1), (32, .getfield 26, 3), (35, .getfield 78, 3), (38, .iload_n 1, 1), (39, .invokevirtual 246, 3), (42, .istore_n 3, 1), (43, .iload_n 2, 1), (44, .ifCond .ne 18, 3), (47, .aload_n 0, 1), (48, .getfield 26, 3), (51, .getfield 78, 3), (54, .iload_n 3, 1), (55, .iconst 1, 1), (56, .invokevirtual 228, 3), (59, .goto 4, 3), (62, .iload_n 3, 1), (63, .ireturn, 1)]
set_option maxRecDepth 100000 in
theorem dX10_wrong_0_g : dX10_wrong_0_l.all (fun x => decide (decode cX10_wrong x.1 = .ok x.2)) = true := by decide +kernel
theorem dX10_wrong_0 : decode cX10_wrong 0 = .ok (.aload_n 0, 1) := nq_d dX10_wrong_0_g (n := 0) rfl
theorem dX10_wrong_1 : decode cX10_wrong 1 = .ok (.getfield 26, 3) := nq_d dX10_wrong_0_g (n := 1) rfl
theorem dX10_wrong_4 : decode cX10_wrong 4 = .ok (.getfield 116, 3) := nq_d dX10_wrong_0_g (n := 2) rfl
theorem dX10_wrong_7 : decode cX10_wrong 7 = .ok (.iload_n 1, 1) := nq_d dX10_wrong_0_g (n := 3) rfl
theorem dX10_wrong_8 : decode cX10_wrong 8 = .ok (.invokevirtual 158, 3) := nq_d dX10_wrong_0_g (n := 4) rfl
theorem dX10_wrong_11 : decode cX10_wrong 11 = .ok (.ifCond .ne 7, 3) := nq_d dX10_wrong_0_g (n := 5) rfl
theorem dX10_wrong_14 : decode cX10_wrong 14 = .ok (.sipush (-1001), 3) := nq_d dX10_wrong_0_g (n := 6) rfl
theorem dX10_wrong_17 : decode cX10_wrong 17 = .ok (.ireturn, 1) := nq_d dX10_wrong_0_g (n := 7) rfl
theorem dX10_wrong_18 : decode cX10_wrong 18 = .ok (.iload_n 2, 1) := nq_d dX10_wrong_0_g (n := 8) rfl
theorem dX10_wrong_19 : decode cX10_wrong 19 = .ok (.iconst 0, 1) := nq_d dX10_wrong_0_g (n := 9) rfl
theorem dX10_wrong_20 : decode cX10_wrong 20 = .ok (.iconst 1, 1) := nq_d dX10_wrong_0_g (n := 10) rfl
theorem dX10_wrong_21 : decode cX10_wrong 21 = .ok (.invokestatic 67, 3) := nq_d dX10_wrong_0_g (n := 11) rfl
theorem dX10_wrong_24 : decode cX10_wrong 24 = .ok (.ifCond .ne 7, 3) := nq_d dX10_wrong_0_g (n := 12) rfl
theorem dX10_wrong_27 : decode cX10_wrong 27 = .ok (.sipush (-1002), 3) := nq_d dX10_wrong_0_g (n := 13) rfl
theorem dX10_wrong_30 : decode cX10_wrong 30 = .ok (.ireturn, 1) := nq_d dX10_wrong_0_g (n := 14) rfl
theorem dX10_wrong_31 : decode cX10_wrong 31 = .ok (.aload_n 0, 1) := nq_d dX10_wrong_0_g (n := 15) rfl
theorem dX10_wrong_32 : decode cX10_wrong 32 = .ok (.getfield 26, 3) := nq_d dX10_wrong_0_g (n := 16) rfl
theorem dX10_wrong_35 : decode cX10_wrong 35 = .ok (.getfield 78, 3) := nq_d dX10_wrong_0_g (n := 17) rfl
theorem dX10_wrong_38 : decode cX10_wrong 38 = .ok (.iload_n 1, 1) := nq_d dX10_wrong_0_g (n := 18) rfl
theorem dX10_wrong_39 : decode cX10_wrong 39 = .ok (.invokevirtual 246, 3) := nq_d dX10_wrong_0_g (n := 19) rfl
theorem dX10_wrong_42 : decode cX10_wrong 42 = .ok (.istore_n 3, 1) := nq_d dX10_wrong_0_g (n := 20) rfl
theorem dX10_wrong_43 : decode cX10_wrong 43 = .ok (.iload_n 2, 1) := nq_d dX10_wrong_0_g (n := 21) rfl
theorem dX10_wrong_44 : decode cX10_wrong 44 = .ok (.ifCond .ne 18, 3) := nq_d dX10_wrong_0_g (n := 22) rfl
theorem dX10_wrong_47 : decode cX10_wrong 47 = .ok (.aload_n 0, 1) := nq_d dX10_wrong_0_g (n := 23) rfl
theorem dX10_wrong_48 : decode cX10_wrong 48 = .ok (.getfield 26, 3) := nq_d dX10_wrong_0_g (n := 24) rfl
theorem dX10_wrong_51 : decode cX10_wrong 51 = .ok (.getfield 78, 3) := nq_d dX10_wrong_0_g (n := 25) rfl
theorem dX10_wrong_54 : decode cX10_wrong 54 = .ok (.iload_n 3, 1) := nq_d dX10_wrong_0_g (n := 26) rfl
theorem dX10_wrong_55 : decode cX10_wrong 55 = .ok (.iconst 1, 1) := nq_d dX10_wrong_0_g (n := 27) rfl
theorem dX10_wrong_56 : decode cX10_wrong 56 = .ok (.invokevirtual 228, 3) := nq_d dX10_wrong_0_g (n := 28) rfl
theorem dX10_wrong_59 : decode cX10_wrong 59 = .ok (.goto 4, 3) := nq_d dX10_wrong_0_g (n := 29) rfl
theorem dX10_wrong_62 : decode cX10_wrong 62 = .ok (.iload_n 3, 1) := nq_d dX10_wrong_0_g (n := 30) rfl
theorem dX10_wrong_63 : decode cX10_wrong 63 = .ok (.ireturn, 1) := nq_d dX10_wrong_0_g (n := 31) rfl
set_option maxRecDepth 100000 in
theorem ggX10_rush_X10_allHang : GoodIn wsX10_rush wsX10_allHang := goodIn_sub (sub_c (nq_m (n := 9) rfl) (sub_c (nq_m (n := 2) rfl) (sub_c (nq_m (n := 3) rfl) (sub_c (nq_m (n := 10) rfl) (sub_c (nq_m (n := 11) rfl) (sub_c (nq_m (n := 12) rfl) (sub_c (nq_m (n := 13) rfl) (sub_c (nq_m (n := 14) rfl) (sub_c (nq_m (n := 15) rfl) (sub_c (nq_m (n := 16) rfl) (sub_c (nq_m (n := 17) rfl) (sub_c (nq_m (n := 18) rfl) (sub_c (nq_m (n := 19) rfl) (sub_c (nq_m (n := 20) rfl) (sub_c (nq_m (n := 21) rfl) (sub_c (nq_m (n := 79) rfl) (sub_c (nq_m (n := 80) rfl) (sub_c (nq_m (n := 81) rfl) (sub_c (nq_m (n := 82) rfl) (sub_c (nq_m (n := 83) rfl) (sub_c (nq_m (n := 84) rfl) (sub_c (nq_m (n := 85) rfl) (sub_c (nq_m (n := 86) rfl) (sub_c (nq_m (n := 87) rfl) (sub_c (nq_m (n := 88) rfl) (sub_c (nq_m (n := 89) rfl) (sub_c (nq_m (n := 90) rfl) (sub_c (nq_m (n := 91) rfl) (sub_c (nq_m (n := 92) rfl) (sub_c (nq_m (n := 93) rfl) (sub_c (nq_m (n := 94) rfl) (sub_c (nq_m (n := 95) rfl) (sub_c (nq_m (n := 96) rfl) (sub_c (nq_m (n := 97) rfl) (sub_c (nq_m (n := 98) rfl) (sub_c (nq_m (n := 99) rfl) (sub_c (nq_m (n := 100) rfl) (sub_c (nq_m (n := 101) rfl) sub_n)))))))))))))))))))))))))))))))))))))) (by decide +kernel)
set_option maxRecDepth 100000 in
theorem gX10_rush_X10_allHang : GoodIn wsX10_rush (wsV RX10 249 RX10 yX10_allHang wsX10_allHang) := goodIn_app (goodIn_sub (sub_c (nq_m (n := 5) rfl) (sub_c (nq_m (n := 6) rfl) (sub_c (nq_m (n := 7) rfl) (sub_c (nq_m (n := 8) rfl) sub_n)))) (by decide +kernel)) ggX10_rush_X10_allHang
set_option maxRecDepth 100000 in
theorem ggX10_rush_X10_within : GoodIn wsX10_rush wsX10_within := goodIn_sub (sub_c (nq_m (n := 24) rfl) sub_n) (by decide +kernel)
set_option maxRecDepth 100000 in
theorem gX10_rush_X10_within : GoodIn wsX10_rush (va_wsS RX10 67 yX10_within wsX10_within) := goodIn_app (goodIn_sub (sub_c (nq_m (n := 22) rfl) (sub_c (nq_m (n := 23) rfl) (sub_c (nq_m (n := 8) rfl) sub_n))) (by decide +kernel)) ggX10_rush_X10_within
set_option maxRecDepth 100000 in
theorem ggX10_rush_X9_load : GoodIn wsX10_rush wsX9_load := goodIn_sub (sub_c (nq_m (n := 29) rfl) (sub_c (nq_m (n := 30) rfl) (sub_c (nq_m (n := 31) rfl) (sub_c (nq_m (n := 32) rfl) (sub_c (nq_m (n := 33) rfl) (sub_c (nq_m (n := 34) rfl) (sub_c (nq_m (n := 35) rfl) (sub_c (nq_m (n := 36) rfl) (sub_c (nq_m (n := 37) rfl) (sub_c (nq_m (n := 38) rfl) (sub_c (nq_m (n := 39) rfl) (sub_c (nq_m (n := 40) rfl) (sub_c (nq_m (n := 41) rfl) (sub_c (nq_m (n := 42) rfl) (sub_c (nq_m (n := 43) rfl) (sub_c (nq_m (n := 44) rfl) (sub_c (nq_m (n := 45) rfl) (sub_c (nq_m (n := 46) rfl) (sub_c (nq_m (n := 47) rfl) (sub_c (nq_m (n := 48) rfl) (sub_c (nq_m (n := 49) rfl) (sub_c (nq_m (n := 50) rfl) (sub_c (nq_m (n := 102) rfl) (sub_c (nq_m (n := 103) rfl) (sub_c (nq_m (n := 104) rfl) (sub_c (nq_m (n := 105) rfl) (sub_c (nq_m (n := 106) rfl) (sub_c (nq_m (n := 107) rfl) (sub_c (nq_m (n := 108) rfl) (sub_c (nq_m (n := 109) rfl) (sub_c (nq_m (n := 110) rfl) (sub_c (nq_m (n := 111) rfl) (sub_c (nq_m (n := 112) rfl) (sub_c (nq_m (n := 113) rfl) (sub_c (nq_m (n := 114) rfl) (sub_c (nq_m (n := 115) rfl) (sub_c (nq_m (n := 116) rfl) (sub_c (nq_m (n := 117) rfl) (sub_c (nq_m (n := 118) rfl) (sub_c (nq_m (n := 119) rfl) (sub_c (nq_m (n := 120) rfl) (sub_c (nq_m (n := 94) rfl) (sub_c (nq_m (n := 95) rfl) (sub_c (nq_m (n := 96) rfl) (sub_c (nq_m (n := 97) rfl) (sub_c (nq_m (n := 98) rfl) (sub_c (nq_m (n := 99) rfl) (sub_c (nq_m (n := 100) rfl) (sub_c (nq_m (n := 101) rfl) sub_n))))))))))))))))))))))))))))))))))))))))))))))))) (by decide +kernel)
set_option maxRecDepth 100000 in
theorem gX10_rush_X9_load : GoodIn wsX10_rush (wsV RX10 252 RX9 yX9_load wsX9_load) := goodIn_app (goodIn_sub (sub_c (nq_m (n := 25) rfl) (sub_c (nq_m (n := 26) rfl) (sub_c (nq_m (n := 27) rfl) (sub_c (nq_m (n := 28) rfl) sub_n)))) (by decide +kernel)) ggX10_rush_X9_load
set_option maxRecDepth 100000 in
theorem ggX10_rush_X9_serveFrom : GoodIn wsX10_rush wsX9_serveFrom := goodIn_sub (sub_c (nq_m (n := 54) rfl) (sub_c (nq_m (n := 30) rfl) (sub_c (nq_m (n := 55) rfl) (sub_c (nq_m (n := 56) rfl) (sub_c (nq_m (n := 57) rfl) (sub_c (nq_m (n := 28) rfl) (sub_c (nq_m (n := 58) rfl) (sub_c (nq_m (n := 59) rfl) (sub_c (nq_m (n := 39) rfl) (sub_c (nq_m (n := 34) rfl) (sub_c (nq_m (n := 60) rfl) (sub_c (nq_m (n := 61) rfl) (sub_c (nq_m (n := 62) rfl) (sub_c (nq_m (n := 63) rfl) (sub_c (nq_m (n := 64) rfl) (sub_c (nq_m (n := 65) rfl) (sub_c (nq_m (n := 66) rfl) (sub_c (nq_m (n := 37) rfl) (sub_c (nq_m (n := 32) rfl) (sub_c (nq_m (n := 23) rfl) (sub_c (nq_m (n := 8) rfl) (sub_c (nq_m (n := 24) rfl) (sub_c (nq_m (n := 102) rfl) (sub_c (nq_m (n := 103) rfl) (sub_c (nq_m (n := 104) rfl) (sub_c (nq_m (n := 105) rfl) (sub_c (nq_m (n := 106) rfl) (sub_c (nq_m (n := 107) rfl) (sub_c (nq_m (n := 108) rfl) (sub_c (nq_m (n := 109) rfl) (sub_c (nq_m (n := 110) rfl) (sub_c (nq_m (n := 111) rfl) (sub_c (nq_m (n := 112) rfl) (sub_c (nq_m (n := 113) rfl) sub_n)))))))))))))))))))))))))))))))))) (by decide +kernel)
set_option maxRecDepth 100000 in
theorem gX10_rush_X9_serveFrom : GoodIn wsX10_rush (wsV RX10 256 RX9 yX9_serveFrom wsX9_serveFrom) := goodIn_app (goodIn_sub (sub_c (nq_m (n := 51) rfl) (sub_c (nq_m (n := 52) rfl) (sub_c (nq_m (n := 53) rfl) (sub_c (nq_m (n := 28) rfl) sub_n)))) (by decide +kernel)) ggX10_rush_X9_serveFrom
set_option maxRecDepth 100000 in
theorem ggX10_rush_X9_sumOfWaits : GoodIn wsX10_rush wsX9_sumOfWaits := goodIn_sub (sub_c (nq_m (n := 70) rfl) (sub_c (nq_m (n := 60) rfl) (sub_c (nq_m (n := 30) rfl) (sub_c (nq_m (n := 102) rfl) (sub_c (nq_m (n := 103) rfl) (sub_c (nq_m (n := 104) rfl) (sub_c (nq_m (n := 105) rfl) (sub_c (nq_m (n := 106) rfl) (sub_c (nq_m (n := 107) rfl) (sub_c (nq_m (n := 108) rfl) (sub_c (nq_m (n := 109) rfl) (sub_c (nq_m (n := 110) rfl) (sub_c (nq_m (n := 111) rfl) (sub_c (nq_m (n := 112) rfl) (sub_c (nq_m (n := 113) rfl) sub_n))))))))))))))) (by decide +kernel)
set_option maxRecDepth 100000 in
theorem gX10_rush_X9_sumOfWaits : GoodIn wsX10_rush (wsV RX10 259 RX9 yX9_sumOfWaits wsX9_sumOfWaits) := goodIn_app (goodIn_sub (sub_c (nq_m (n := 67) rfl) (sub_c (nq_m (n := 68) rfl) (sub_c (nq_m (n := 69) rfl) (sub_c (nq_m (n := 28) rfl) sub_n)))) (by decide +kernel)) ggX10_rush_X9_sumOfWaits
set_option maxRecDepth 100000 in
theorem ggX10_rush_X9_greatestWait : GoodIn wsX10_rush wsX9_greatestWait := goodIn_sub (sub_c (nq_m (n := 74) rfl) (sub_c (nq_m (n := 61) rfl) (sub_c (nq_m (n := 30) rfl) (sub_c (nq_m (n := 102) rfl) (sub_c (nq_m (n := 103) rfl) (sub_c (nq_m (n := 104) rfl) (sub_c (nq_m (n := 105) rfl) (sub_c (nq_m (n := 106) rfl) (sub_c (nq_m (n := 107) rfl) (sub_c (nq_m (n := 108) rfl) (sub_c (nq_m (n := 109) rfl) (sub_c (nq_m (n := 110) rfl) (sub_c (nq_m (n := 111) rfl) (sub_c (nq_m (n := 112) rfl) (sub_c (nq_m (n := 113) rfl) sub_n))))))))))))))) (by decide +kernel)
set_option maxRecDepth 100000 in
theorem gX10_rush_X9_greatestWait : GoodIn wsX10_rush (wsV RX10 262 RX9 yX9_greatestWait wsX9_greatestWait) := goodIn_app (goodIn_sub (sub_c (nq_m (n := 71) rfl) (sub_c (nq_m (n := 72) rfl) (sub_c (nq_m (n := 73) rfl) (sub_c (nq_m (n := 28) rfl) sub_n)))) (by decide +kernel)) ggX10_rush_X9_greatestWait
set_option maxRecDepth 100000 in
theorem ggX10_rush_X9_sumOfTips : GoodIn wsX10_rush wsX9_sumOfTips := goodIn_sub (sub_c (nq_m (n := 78) rfl) (sub_c (nq_m (n := 66) rfl) (sub_c (nq_m (n := 30) rfl) (sub_c (nq_m (n := 102) rfl) (sub_c (nq_m (n := 103) rfl) (sub_c (nq_m (n := 104) rfl) (sub_c (nq_m (n := 105) rfl) (sub_c (nq_m (n := 106) rfl) (sub_c (nq_m (n := 107) rfl) (sub_c (nq_m (n := 108) rfl) (sub_c (nq_m (n := 109) rfl) (sub_c (nq_m (n := 110) rfl) (sub_c (nq_m (n := 111) rfl) (sub_c (nq_m (n := 112) rfl) (sub_c (nq_m (n := 113) rfl) sub_n))))))))))))))) (by decide +kernel)
set_option maxRecDepth 100000 in
theorem gX10_rush_X9_sumOfTips : GoodIn wsX10_rush (wsV RX10 265 RX9 yX9_sumOfTips wsX9_sumOfTips) := goodIn_app (goodIn_sub (sub_c (nq_m (n := 75) rfl) (sub_c (nq_m (n := 76) rfl) (sub_c (nq_m (n := 77) rfl) (sub_c (nq_m (n := 28) rfl) sub_n)))) (by decide +kernel)) ggX10_rush_X9_sumOfTips
noncomputable def dX10_rush_0_l : List (Nat × Instr × Nat) := [(0, .aload_n 0, 1), (1, .iload_n 1, 1), (2, .invokevirtual 249, 3), (5, .ifCond .ne 7, 3), (8, .sipush (-1001), 3), (11, .ireturn, 1), (12, .iload_n 2, 1), (13, .iconst 1, 1), (14, .iconst 4, 1), (15, .invokestatic 67, 3), (18, .ifCond .eq 12, 3), (21, .iload_n 3, 1), (22, .iconst 0, 1), (23, .iconst 2, 1), (24, .invokestatic 67, 3), (27, .ifCond .ne 7, 3), (30, .sipush (-1002), 3), (33, .ireturn, 1), (34, .aload_n 0, 1), (35, .getfield 46, 3), (38, .iload_n 1, 1), (39, .aload_n 0, 1), (40, .getfield 26, 3), (43, .getfield 116, 3), (46, .aload_n 0, 1), (47, .getfield 10, 3), (50, .invokevirtual 252, 3), (53, .aload_n 0, 1), (54, .getfield 46, 3), (57, .iconst 0, 1), (58, .iload_n 2, 1), (59, .invokevirtual 256, 3), (62, .iload_n 3, 1), (63, .lookupswitch 41 #[(0, 25), (1, 33)], 25), (88, .aload_n 0, 1), (89, .getfield 46, 3), (92, .invokevirtual 259, 3), (95, .ireturn, 1), (96, .aload_n 0, 1), (97, .getfield 46, 3)]
set_option maxRecDepth 100000 in
theorem dX10_rush_0_g : dX10_rush_0_l.all (fun x => decide (decode cX10_rush x.1 = .ok x.2)) = true := by decide +kernel
theorem dX10_rush_0 : decode cX10_rush 0 = .ok (.aload_n 0, 1) := nq_d dX10_rush_0_g (n := 0) rfl
theorem dX10_rush_1 : decode cX10_rush 1 = .ok (.iload_n 1, 1) := nq_d dX10_rush_0_g (n := 1) rfl
theorem dX10_rush_2 : decode cX10_rush 2 = .ok (.invokevirtual 249, 3) := nq_d dX10_rush_0_g (n := 2) rfl
theorem dX10_rush_5 : decode cX10_rush 5 = .ok (.ifCond .ne 7, 3) := nq_d dX10_rush_0_g (n := 3) rfl
theorem dX10_rush_8 : decode cX10_rush 8 = .ok (.sipush (-1001), 3) := nq_d dX10_rush_0_g (n := 4) rfl
theorem dX10_rush_11 : decode cX10_rush 11 = .ok (.ireturn, 1) := nq_d dX10_rush_0_g (n := 5) rfl
theorem dX10_rush_12 : decode cX10_rush 12 = .ok (.iload_n 2, 1) := nq_d dX10_rush_0_g (n := 6) rfl
theorem dX10_rush_13 : decode cX10_rush 13 = .ok (.iconst 1, 1) := nq_d dX10_rush_0_g (n := 7) rfl
theorem dX10_rush_14 : decode cX10_rush 14 = .ok (.iconst 4, 1) := nq_d dX10_rush_0_g (n := 8) rfl
theorem dX10_rush_15 : decode cX10_rush 15 = .ok (.invokestatic 67, 3) := nq_d dX10_rush_0_g (n := 9) rfl
theorem dX10_rush_18 : decode cX10_rush 18 = .ok (.ifCond .eq 12, 3) := nq_d dX10_rush_0_g (n := 10) rfl
theorem dX10_rush_21 : decode cX10_rush 21 = .ok (.iload_n 3, 1) := nq_d dX10_rush_0_g (n := 11) rfl
theorem dX10_rush_22 : decode cX10_rush 22 = .ok (.iconst 0, 1) := nq_d dX10_rush_0_g (n := 12) rfl
theorem dX10_rush_23 : decode cX10_rush 23 = .ok (.iconst 2, 1) := nq_d dX10_rush_0_g (n := 13) rfl
theorem dX10_rush_24 : decode cX10_rush 24 = .ok (.invokestatic 67, 3) := nq_d dX10_rush_0_g (n := 14) rfl
theorem dX10_rush_27 : decode cX10_rush 27 = .ok (.ifCond .ne 7, 3) := nq_d dX10_rush_0_g (n := 15) rfl
theorem dX10_rush_30 : decode cX10_rush 30 = .ok (.sipush (-1002), 3) := nq_d dX10_rush_0_g (n := 16) rfl
theorem dX10_rush_33 : decode cX10_rush 33 = .ok (.ireturn, 1) := nq_d dX10_rush_0_g (n := 17) rfl
theorem dX10_rush_34 : decode cX10_rush 34 = .ok (.aload_n 0, 1) := nq_d dX10_rush_0_g (n := 18) rfl
theorem dX10_rush_35 : decode cX10_rush 35 = .ok (.getfield 46, 3) := nq_d dX10_rush_0_g (n := 19) rfl
theorem dX10_rush_38 : decode cX10_rush 38 = .ok (.iload_n 1, 1) := nq_d dX10_rush_0_g (n := 20) rfl
theorem dX10_rush_39 : decode cX10_rush 39 = .ok (.aload_n 0, 1) := nq_d dX10_rush_0_g (n := 21) rfl
theorem dX10_rush_40 : decode cX10_rush 40 = .ok (.getfield 26, 3) := nq_d dX10_rush_0_g (n := 22) rfl
theorem dX10_rush_43 : decode cX10_rush 43 = .ok (.getfield 116, 3) := nq_d dX10_rush_0_g (n := 23) rfl
theorem dX10_rush_46 : decode cX10_rush 46 = .ok (.aload_n 0, 1) := nq_d dX10_rush_0_g (n := 24) rfl
theorem dX10_rush_47 : decode cX10_rush 47 = .ok (.getfield 10, 3) := nq_d dX10_rush_0_g (n := 25) rfl
theorem dX10_rush_50 : decode cX10_rush 50 = .ok (.invokevirtual 252, 3) := nq_d dX10_rush_0_g (n := 26) rfl
theorem dX10_rush_53 : decode cX10_rush 53 = .ok (.aload_n 0, 1) := nq_d dX10_rush_0_g (n := 27) rfl
theorem dX10_rush_54 : decode cX10_rush 54 = .ok (.getfield 46, 3) := nq_d dX10_rush_0_g (n := 28) rfl
theorem dX10_rush_57 : decode cX10_rush 57 = .ok (.iconst 0, 1) := nq_d dX10_rush_0_g (n := 29) rfl
theorem dX10_rush_58 : decode cX10_rush 58 = .ok (.iload_n 2, 1) := nq_d dX10_rush_0_g (n := 30) rfl
theorem dX10_rush_59 : decode cX10_rush 59 = .ok (.invokevirtual 256, 3) := nq_d dX10_rush_0_g (n := 31) rfl
theorem dX10_rush_62 : decode cX10_rush 62 = .ok (.iload_n 3, 1) := nq_d dX10_rush_0_g (n := 32) rfl
theorem dX10_rush_63 : decode cX10_rush 63 = .ok (.lookupswitch 41 #[(0, 25), (1, 33)], 25) := nq_d dX10_rush_0_g (n := 33) rfl
theorem dX10_rush_88 : decode cX10_rush 88 = .ok (.aload_n 0, 1) := nq_d dX10_rush_0_g (n := 34) rfl
theorem dX10_rush_89 : decode cX10_rush 89 = .ok (.getfield 46, 3) := nq_d dX10_rush_0_g (n := 35) rfl
theorem dX10_rush_92 : decode cX10_rush 92 = .ok (.invokevirtual 259, 3) := nq_d dX10_rush_0_g (n := 36) rfl
theorem dX10_rush_95 : decode cX10_rush 95 = .ok (.ireturn, 1) := nq_d dX10_rush_0_g (n := 37) rfl
theorem dX10_rush_96 : decode cX10_rush 96 = .ok (.aload_n 0, 1) := nq_d dX10_rush_0_g (n := 38) rfl
theorem dX10_rush_97 : decode cX10_rush 97 = .ok (.getfield 46, 3) := nq_d dX10_rush_0_g (n := 39) rfl
noncomputable def dX10_rush_100_l : List (Nat × Instr × Nat) := [(100, .invokevirtual 262, 3), (103, .ireturn, 1), (104, .aload_n 0, 1), (105, .getfield 46, 3), (108, .invokevirtual 265, 3), (111, .ireturn, 1)]
set_option maxRecDepth 100000 in
theorem dX10_rush_100_g : dX10_rush_100_l.all (fun x => decide (decode cX10_rush x.1 = .ok x.2)) = true := by decide +kernel
theorem dX10_rush_100 : decode cX10_rush 100 = .ok (.invokevirtual 262, 3) := nq_d dX10_rush_100_g (n := 0) rfl
theorem dX10_rush_103 : decode cX10_rush 103 = .ok (.ireturn, 1) := nq_d dX10_rush_100_g (n := 1) rfl
theorem dX10_rush_104 : decode cX10_rush 104 = .ok (.aload_n 0, 1) := nq_d dX10_rush_100_g (n := 2) rfl
theorem dX10_rush_105 : decode cX10_rush 105 = .ok (.getfield 46, 3) := nq_d dX10_rush_100_g (n := 3) rfl
theorem dX10_rush_108 : decode cX10_rush 108 = .ok (.invokevirtual 265, 3) := nq_d dX10_rush_100_g (n := 4) rfl
theorem dX10_rush_111 : decode cX10_rush 111 = .ok (.ireturn, 1) := nq_d dX10_rush_100_g (n := 5) rfl
set_option maxRecDepth 100000 in
theorem ggX10_bestRow_X10_allHang : GoodIn wsX10_bestRow wsX10_allHang := goodIn_sub (sub_c (nq_m (n := 10) rfl) (sub_c (nq_m (n := 2) rfl) (sub_c (nq_m (n := 3) rfl) (sub_c (nq_m (n := 11) rfl) (sub_c (nq_m (n := 12) rfl) (sub_c (nq_m (n := 13) rfl) (sub_c (nq_m (n := 14) rfl) (sub_c (nq_m (n := 15) rfl) (sub_c (nq_m (n := 16) rfl) (sub_c (nq_m (n := 17) rfl) (sub_c (nq_m (n := 18) rfl) (sub_c (nq_m (n := 19) rfl) (sub_c (nq_m (n := 20) rfl) (sub_c (nq_m (n := 21) rfl) (sub_c (nq_m (n := 22) rfl) (sub_c (nq_m (n := 106) rfl) (sub_c (nq_m (n := 107) rfl) (sub_c (nq_m (n := 108) rfl) (sub_c (nq_m (n := 109) rfl) (sub_c (nq_m (n := 110) rfl) (sub_c (nq_m (n := 111) rfl) (sub_c (nq_m (n := 112) rfl) (sub_c (nq_m (n := 113) rfl) (sub_c (nq_m (n := 114) rfl) (sub_c (nq_m (n := 115) rfl) (sub_c (nq_m (n := 116) rfl) (sub_c (nq_m (n := 117) rfl) (sub_c (nq_m (n := 118) rfl) (sub_c (nq_m (n := 119) rfl) (sub_c (nq_m (n := 120) rfl) (sub_c (nq_m (n := 133) rfl) (sub_c (nq_m (n := 134) rfl) (sub_c (nq_m (n := 135) rfl) (sub_c (nq_m (n := 136) rfl) (sub_c (nq_m (n := 137) rfl) (sub_c (nq_m (n := 138) rfl) (sub_c (nq_m (n := 139) rfl) (sub_c (nq_m (n := 140) rfl) sub_n)))))))))))))))))))))))))))))))))))))) (by decide +kernel)
set_option maxRecDepth 100000 in
theorem gX10_bestRow_X10_allHang : GoodIn wsX10_bestRow (wsV RX10 249 RX10 yX10_allHang wsX10_allHang) := goodIn_app (goodIn_sub (sub_c (nq_m (n := 6) rfl) (sub_c (nq_m (n := 7) rfl) (sub_c (nq_m (n := 8) rfl) (sub_c (nq_m (n := 9) rfl) sub_n)))) (by decide +kernel)) ggX10_bestRow_X10_allHang
set_option maxRecDepth 100000 in
theorem ggX10_bestRow_X10_within : GoodIn wsX10_bestRow wsX10_within := goodIn_sub (sub_c (nq_m (n := 25) rfl) sub_n) (by decide +kernel)
set_option maxRecDepth 100000 in
theorem gX10_bestRow_X10_within : GoodIn wsX10_bestRow (va_wsS RX10 67 yX10_within wsX10_within) := goodIn_app (goodIn_sub (sub_c (nq_m (n := 23) rfl) (sub_c (nq_m (n := 24) rfl) (sub_c (nq_m (n := 9) rfl) sub_n))) (by decide +kernel)) ggX10_bestRow_X10_within
set_option maxRecDepth 100000 in
theorem ggX10_bestRow_J6_bitCount_0f7a4 : GoodIn wsX10_bestRow wsJ6_bitCount_0f7a4 := goodIn_sub (sub_c (nq_m (n := 29) rfl) (sub_c (nq_m (n := 30) rfl) (sub_c (nq_m (n := 31) rfl) (sub_c (nq_m (n := 32) rfl) sub_n)))) (by decide +kernel)
set_option maxRecDepth 100000 in
theorem gX10_bestRow_J6_bitCount_0f7a4 : GoodIn wsX10_bestRow (va_wsS RX10 268 yJ6_bitCount_0f7a4 wsJ6_bitCount_0f7a4) := goodIn_app (goodIn_sub (sub_c (nq_m (n := 26) rfl) (sub_c (nq_m (n := 27) rfl) (sub_c (nq_m (n := 28) rfl) sub_n))) (by decide +kernel)) ggX10_bestRow_J6_bitCount_0f7a4
set_option maxRecDepth 100000 in
theorem ggX10_bestRow_X9_load : GoodIn wsX10_bestRow wsX9_load := goodIn_sub (sub_c (nq_m (n := 37) rfl) (sub_c (nq_m (n := 38) rfl) (sub_c (nq_m (n := 39) rfl) (sub_c (nq_m (n := 40) rfl) (sub_c (nq_m (n := 41) rfl) (sub_c (nq_m (n := 42) rfl) (sub_c (nq_m (n := 43) rfl) (sub_c (nq_m (n := 44) rfl) (sub_c (nq_m (n := 45) rfl) (sub_c (nq_m (n := 46) rfl) (sub_c (nq_m (n := 47) rfl) (sub_c (nq_m (n := 48) rfl) (sub_c (nq_m (n := 49) rfl) (sub_c (nq_m (n := 50) rfl) (sub_c (nq_m (n := 51) rfl) (sub_c (nq_m (n := 52) rfl) (sub_c (nq_m (n := 53) rfl) (sub_c (nq_m (n := 54) rfl) (sub_c (nq_m (n := 55) rfl) (sub_c (nq_m (n := 56) rfl) (sub_c (nq_m (n := 57) rfl) (sub_c (nq_m (n := 58) rfl) (sub_c (nq_m (n := 121) rfl) (sub_c (nq_m (n := 122) rfl) (sub_c (nq_m (n := 123) rfl) (sub_c (nq_m (n := 124) rfl) (sub_c (nq_m (n := 125) rfl) (sub_c (nq_m (n := 126) rfl) (sub_c (nq_m (n := 127) rfl) (sub_c (nq_m (n := 128) rfl) (sub_c (nq_m (n := 129) rfl) (sub_c (nq_m (n := 130) rfl) (sub_c (nq_m (n := 131) rfl) (sub_c (nq_m (n := 132) rfl) (sub_c (nq_m (n := 141) rfl) (sub_c (nq_m (n := 142) rfl) (sub_c (nq_m (n := 143) rfl) (sub_c (nq_m (n := 144) rfl) (sub_c (nq_m (n := 145) rfl) (sub_c (nq_m (n := 146) rfl) (sub_c (nq_m (n := 147) rfl) (sub_c (nq_m (n := 133) rfl) (sub_c (nq_m (n := 134) rfl) (sub_c (nq_m (n := 135) rfl) (sub_c (nq_m (n := 136) rfl) (sub_c (nq_m (n := 137) rfl) (sub_c (nq_m (n := 138) rfl) (sub_c (nq_m (n := 139) rfl) (sub_c (nq_m (n := 140) rfl) sub_n))))))))))))))))))))))))))))))))))))))))))))))))) (by decide +kernel)
set_option maxRecDepth 100000 in
theorem gX10_bestRow_X9_load : GoodIn wsX10_bestRow (wsV RX10 252 RX9 yX9_load wsX9_load) := goodIn_app (goodIn_sub (sub_c (nq_m (n := 33) rfl) (sub_c (nq_m (n := 34) rfl) (sub_c (nq_m (n := 35) rfl) (sub_c (nq_m (n := 36) rfl) sub_n)))) (by decide +kernel)) ggX10_bestRow_X9_load
set_option maxRecDepth 100000 in
theorem ggX10_bestRow_X9_findBest : GoodIn wsX10_bestRow wsX9_findBest := goodIn_sub (sub_c (nq_m (n := 62) rfl) (sub_c (nq_m (n := 63) rfl) (sub_c (nq_m (n := 64) rfl) (sub_c (nq_m (n := 65) rfl) (sub_c (nq_m (n := 66) rfl) (sub_c (nq_m (n := 67) rfl) (sub_c (nq_m (n := 36) rfl) (sub_c (nq_m (n := 68) rfl) (sub_c (nq_m (n := 38) rfl) (sub_c (nq_m (n := 69) rfl) (sub_c (nq_m (n := 70) rfl) (sub_c (nq_m (n := 71) rfl) (sub_c (nq_m (n := 72) rfl) (sub_c (nq_m (n := 73) rfl) (sub_c (nq_m (n := 47) rfl) (sub_c (nq_m (n := 42) rfl) (sub_c (nq_m (n := 74) rfl) (sub_c (nq_m (n := 75) rfl) (sub_c (nq_m (n := 76) rfl) (sub_c (nq_m (n := 77) rfl) (sub_c (nq_m (n := 78) rfl) (sub_c (nq_m (n := 79) rfl) (sub_c (nq_m (n := 80) rfl) (sub_c (nq_m (n := 45) rfl) (sub_c (nq_m (n := 40) rfl) (sub_c (nq_m (n := 24) rfl) (sub_c (nq_m (n := 9) rfl) (sub_c (nq_m (n := 25) rfl) (sub_c (nq_m (n := 81) rfl) (sub_c (nq_m (n := 82) rfl) (sub_c (nq_m (n := 83) rfl) (sub_c (nq_m (n := 84) rfl) (sub_c (nq_m (n := 85) rfl) (sub_c (nq_m (n := 86) rfl) (sub_c (nq_m (n := 87) rfl) (sub_c (nq_m (n := 88) rfl) (sub_c (nq_m (n := 89) rfl) (sub_c (nq_m (n := 90) rfl) (sub_c (nq_m (n := 91) rfl) (sub_c (nq_m (n := 92) rfl) (sub_c (nq_m (n := 93) rfl) (sub_c (nq_m (n := 94) rfl) (sub_c (nq_m (n := 95) rfl) (sub_c (nq_m (n := 96) rfl) (sub_c (nq_m (n := 97) rfl) (sub_c (nq_m (n := 98) rfl) (sub_c (nq_m (n := 99) rfl) (sub_c (nq_m (n := 100) rfl) (sub_c (nq_m (n := 101) rfl) (sub_c (nq_m (n := 121) rfl) (sub_c (nq_m (n := 122) rfl) (sub_c (nq_m (n := 123) rfl) (sub_c (nq_m (n := 124) rfl) (sub_c (nq_m (n := 125) rfl) (sub_c (nq_m (n := 126) rfl) (sub_c (nq_m (n := 127) rfl) (sub_c (nq_m (n := 128) rfl) (sub_c (nq_m (n := 129) rfl) (sub_c (nq_m (n := 130) rfl) (sub_c (nq_m (n := 131) rfl) (sub_c (nq_m (n := 132) rfl) sub_n))))))))))))))))))))))))))))))))))))))))))))))))))))))))))))) (by decide +kernel)
set_option maxRecDepth 100000 in
theorem gX10_bestRow_X9_findBest : GoodIn wsX10_bestRow (wsV RX10 273 RX9 yX9_findBest wsX9_findBest) := goodIn_app (goodIn_sub (sub_c (nq_m (n := 59) rfl) (sub_c (nq_m (n := 60) rfl) (sub_c (nq_m (n := 61) rfl) (sub_c (nq_m (n := 36) rfl) sub_n)))) (by decide +kernel)) ggX10_bestRow_X9_findBest
set_option maxRecDepth 100000 in
theorem ggX10_bestRow_X9_bestMember : GoodIn wsX10_bestRow wsX9_bestMember := goodIn_sub (sub_c (nq_m (n := 105) rfl) (sub_c (nq_m (n := 38) rfl) (sub_c (nq_m (n := 85) rfl) (sub_c (nq_m (n := 121) rfl) (sub_c (nq_m (n := 122) rfl) (sub_c (nq_m (n := 123) rfl) (sub_c (nq_m (n := 124) rfl) (sub_c (nq_m (n := 125) rfl) (sub_c (nq_m (n := 126) rfl) (sub_c (nq_m (n := 127) rfl) (sub_c (nq_m (n := 128) rfl) (sub_c (nq_m (n := 129) rfl) (sub_c (nq_m (n := 130) rfl) (sub_c (nq_m (n := 131) rfl) (sub_c (nq_m (n := 132) rfl) sub_n))))))))))))))) (by decide +kernel)
set_option maxRecDepth 100000 in
theorem gX10_bestRow_X9_bestMember : GoodIn wsX10_bestRow (wsV RX10 280 RX9 yX9_bestMember wsX9_bestMember) := goodIn_app (goodIn_sub (sub_c (nq_m (n := 102) rfl) (sub_c (nq_m (n := 103) rfl) (sub_c (nq_m (n := 104) rfl) (sub_c (nq_m (n := 36) rfl) sub_n)))) (by decide +kernel)) ggX10_bestRow_X9_bestMember
noncomputable def dX10_bestRow_0_l : List (Nat × Instr × Nat) := [(0, .aload_n 0, 1), (1, .iload_n 1, 1), (2, .invokevirtual 249, 3), (5, .ifCond .ne 7, 3), (8, .sipush (-1001), 3), (11, .ireturn, 1), (12, .iload_n 2, 1), (13, .iconst 1, 1), (14, .iconst 4, 1), (15, .invokestatic 67, 3), (18, .ifCond .ne 7, 3), (21, .sipush (-1002), 3), (24, .ireturn, 1), (25, .iload_n 1, 1), (26, .invokestatic 268, 3), (29, .bipush 7, 2), (31, .if_icmp .le 7, 3), (34, .sipush (-1003), 3), (37, .ireturn, 1), (38, .aload_n 0, 1), (39, .getfield 46, 3), (42, .iload_n 1, 1), (43, .aload_n 0, 1), (44, .getfield 26, 3), (47, .getfield 116, 3), (50, .aload_n 0, 1), (51, .getfield 10, 3), (54, .invokevirtual 252, 3), (57, .aload_n 0, 1), (58, .getfield 46, 3), (61, .iload_n 2, 1), (62, .invokevirtual 273, 3), (65, .iload_n 3, 1), (66, .iconst (-1), 1), (67, .if_icmp .ne 13, 3), (70, .aload_n 0, 1), (71, .getfield 46, 3), (74, .getfield 277, 3), (77, .goto 11, 3), (80, .aload_n 0, 1)]
set_option maxRecDepth 100000 in
theorem dX10_bestRow_0_g : dX10_bestRow_0_l.all (fun x => decide (decode cX10_bestRow x.1 = .ok x.2)) = true := by decide +kernel
theorem dX10_bestRow_0 : decode cX10_bestRow 0 = .ok (.aload_n 0, 1) := nq_d dX10_bestRow_0_g (n := 0) rfl
theorem dX10_bestRow_1 : decode cX10_bestRow 1 = .ok (.iload_n 1, 1) := nq_d dX10_bestRow_0_g (n := 1) rfl
theorem dX10_bestRow_2 : decode cX10_bestRow 2 = .ok (.invokevirtual 249, 3) := nq_d dX10_bestRow_0_g (n := 2) rfl
theorem dX10_bestRow_5 : decode cX10_bestRow 5 = .ok (.ifCond .ne 7, 3) := nq_d dX10_bestRow_0_g (n := 3) rfl
theorem dX10_bestRow_8 : decode cX10_bestRow 8 = .ok (.sipush (-1001), 3) := nq_d dX10_bestRow_0_g (n := 4) rfl
theorem dX10_bestRow_11 : decode cX10_bestRow 11 = .ok (.ireturn, 1) := nq_d dX10_bestRow_0_g (n := 5) rfl
theorem dX10_bestRow_12 : decode cX10_bestRow 12 = .ok (.iload_n 2, 1) := nq_d dX10_bestRow_0_g (n := 6) rfl
theorem dX10_bestRow_13 : decode cX10_bestRow 13 = .ok (.iconst 1, 1) := nq_d dX10_bestRow_0_g (n := 7) rfl
theorem dX10_bestRow_14 : decode cX10_bestRow 14 = .ok (.iconst 4, 1) := nq_d dX10_bestRow_0_g (n := 8) rfl
theorem dX10_bestRow_15 : decode cX10_bestRow 15 = .ok (.invokestatic 67, 3) := nq_d dX10_bestRow_0_g (n := 9) rfl
theorem dX10_bestRow_18 : decode cX10_bestRow 18 = .ok (.ifCond .ne 7, 3) := nq_d dX10_bestRow_0_g (n := 10) rfl
theorem dX10_bestRow_21 : decode cX10_bestRow 21 = .ok (.sipush (-1002), 3) := nq_d dX10_bestRow_0_g (n := 11) rfl
theorem dX10_bestRow_24 : decode cX10_bestRow 24 = .ok (.ireturn, 1) := nq_d dX10_bestRow_0_g (n := 12) rfl
theorem dX10_bestRow_25 : decode cX10_bestRow 25 = .ok (.iload_n 1, 1) := nq_d dX10_bestRow_0_g (n := 13) rfl
theorem dX10_bestRow_26 : decode cX10_bestRow 26 = .ok (.invokestatic 268, 3) := nq_d dX10_bestRow_0_g (n := 14) rfl
theorem dX10_bestRow_29 : decode cX10_bestRow 29 = .ok (.bipush 7, 2) := nq_d dX10_bestRow_0_g (n := 15) rfl
theorem dX10_bestRow_31 : decode cX10_bestRow 31 = .ok (.if_icmp .le 7, 3) := nq_d dX10_bestRow_0_g (n := 16) rfl
theorem dX10_bestRow_34 : decode cX10_bestRow 34 = .ok (.sipush (-1003), 3) := nq_d dX10_bestRow_0_g (n := 17) rfl
theorem dX10_bestRow_37 : decode cX10_bestRow 37 = .ok (.ireturn, 1) := nq_d dX10_bestRow_0_g (n := 18) rfl
theorem dX10_bestRow_38 : decode cX10_bestRow 38 = .ok (.aload_n 0, 1) := nq_d dX10_bestRow_0_g (n := 19) rfl
theorem dX10_bestRow_39 : decode cX10_bestRow 39 = .ok (.getfield 46, 3) := nq_d dX10_bestRow_0_g (n := 20) rfl
theorem dX10_bestRow_42 : decode cX10_bestRow 42 = .ok (.iload_n 1, 1) := nq_d dX10_bestRow_0_g (n := 21) rfl
theorem dX10_bestRow_43 : decode cX10_bestRow 43 = .ok (.aload_n 0, 1) := nq_d dX10_bestRow_0_g (n := 22) rfl
theorem dX10_bestRow_44 : decode cX10_bestRow 44 = .ok (.getfield 26, 3) := nq_d dX10_bestRow_0_g (n := 23) rfl
theorem dX10_bestRow_47 : decode cX10_bestRow 47 = .ok (.getfield 116, 3) := nq_d dX10_bestRow_0_g (n := 24) rfl
theorem dX10_bestRow_50 : decode cX10_bestRow 50 = .ok (.aload_n 0, 1) := nq_d dX10_bestRow_0_g (n := 25) rfl
theorem dX10_bestRow_51 : decode cX10_bestRow 51 = .ok (.getfield 10, 3) := nq_d dX10_bestRow_0_g (n := 26) rfl
theorem dX10_bestRow_54 : decode cX10_bestRow 54 = .ok (.invokevirtual 252, 3) := nq_d dX10_bestRow_0_g (n := 27) rfl
theorem dX10_bestRow_57 : decode cX10_bestRow 57 = .ok (.aload_n 0, 1) := nq_d dX10_bestRow_0_g (n := 28) rfl
theorem dX10_bestRow_58 : decode cX10_bestRow 58 = .ok (.getfield 46, 3) := nq_d dX10_bestRow_0_g (n := 29) rfl
theorem dX10_bestRow_61 : decode cX10_bestRow 61 = .ok (.iload_n 2, 1) := nq_d dX10_bestRow_0_g (n := 30) rfl
theorem dX10_bestRow_62 : decode cX10_bestRow 62 = .ok (.invokevirtual 273, 3) := nq_d dX10_bestRow_0_g (n := 31) rfl
theorem dX10_bestRow_65 : decode cX10_bestRow 65 = .ok (.iload_n 3, 1) := nq_d dX10_bestRow_0_g (n := 32) rfl
theorem dX10_bestRow_66 : decode cX10_bestRow 66 = .ok (.iconst (-1), 1) := nq_d dX10_bestRow_0_g (n := 33) rfl
theorem dX10_bestRow_67 : decode cX10_bestRow 67 = .ok (.if_icmp .ne 13, 3) := nq_d dX10_bestRow_0_g (n := 34) rfl
theorem dX10_bestRow_70 : decode cX10_bestRow 70 = .ok (.aload_n 0, 1) := nq_d dX10_bestRow_0_g (n := 35) rfl
theorem dX10_bestRow_71 : decode cX10_bestRow 71 = .ok (.getfield 46, 3) := nq_d dX10_bestRow_0_g (n := 36) rfl
theorem dX10_bestRow_74 : decode cX10_bestRow 74 = .ok (.getfield 277, 3) := nq_d dX10_bestRow_0_g (n := 37) rfl
theorem dX10_bestRow_77 : decode cX10_bestRow 77 = .ok (.goto 11, 3) := nq_d dX10_bestRow_0_g (n := 38) rfl
theorem dX10_bestRow_80 : decode cX10_bestRow 80 = .ok (.aload_n 0, 1) := nq_d dX10_bestRow_0_g (n := 39) rfl
noncomputable def dX10_bestRow_81_l : List (Nat × Instr × Nat) := [(81, .getfield 46, 3), (84, .iload_n 3, 1), (85, .invokevirtual 280, 3), (88, .ireturn, 1)]
set_option maxRecDepth 100000 in
theorem dX10_bestRow_81_g : dX10_bestRow_81_l.all (fun x => decide (decode cX10_bestRow x.1 = .ok x.2)) = true := by decide +kernel
theorem dX10_bestRow_81 : decode cX10_bestRow 81 = .ok (.getfield 46, 3) := nq_d dX10_bestRow_81_g (n := 0) rfl
theorem dX10_bestRow_84 : decode cX10_bestRow 84 = .ok (.iload_n 3, 1) := nq_d dX10_bestRow_81_g (n := 1) rfl
theorem dX10_bestRow_85 : decode cX10_bestRow 85 = .ok (.invokevirtual 280, 3) := nq_d dX10_bestRow_81_g (n := 2) rfl
theorem dX10_bestRow_88 : decode cX10_bestRow 88 = .ok (.ireturn, 1) := nq_d dX10_bestRow_81_g (n := 3) rfl
set_option maxRecDepth 100000 in
theorem ggX10_wanted_X10_allHang : GoodIn wsX10_wanted wsX10_allHang := goodIn_sub (sub_c (nq_m (n := 9) rfl) (sub_c (nq_m (n := 2) rfl) (sub_c (nq_m (n := 3) rfl) (sub_c (nq_m (n := 10) rfl) (sub_c (nq_m (n := 11) rfl) (sub_c (nq_m (n := 12) rfl) (sub_c (nq_m (n := 13) rfl) (sub_c (nq_m (n := 14) rfl) (sub_c (nq_m (n := 15) rfl) (sub_c (nq_m (n := 16) rfl) (sub_c (nq_m (n := 17) rfl) (sub_c (nq_m (n := 18) rfl) (sub_c (nq_m (n := 19) rfl) (sub_c (nq_m (n := 20) rfl) (sub_c (nq_m (n := 21) rfl) (sub_c (nq_m (n := 71) rfl) (sub_c (nq_m (n := 72) rfl) (sub_c (nq_m (n := 73) rfl) (sub_c (nq_m (n := 74) rfl) (sub_c (nq_m (n := 75) rfl) (sub_c (nq_m (n := 76) rfl) (sub_c (nq_m (n := 77) rfl) (sub_c (nq_m (n := 78) rfl) (sub_c (nq_m (n := 79) rfl) (sub_c (nq_m (n := 80) rfl) (sub_c (nq_m (n := 81) rfl) (sub_c (nq_m (n := 82) rfl) (sub_c (nq_m (n := 83) rfl) (sub_c (nq_m (n := 84) rfl) (sub_c (nq_m (n := 85) rfl) (sub_c (nq_m (n := 86) rfl) (sub_c (nq_m (n := 87) rfl) (sub_c (nq_m (n := 88) rfl) (sub_c (nq_m (n := 89) rfl) (sub_c (nq_m (n := 90) rfl) (sub_c (nq_m (n := 91) rfl) (sub_c (nq_m (n := 92) rfl) (sub_c (nq_m (n := 93) rfl) sub_n)))))))))))))))))))))))))))))))))))))) (by decide +kernel)
set_option maxRecDepth 100000 in
theorem gX10_wanted_X10_allHang : GoodIn wsX10_wanted (wsV RX10 249 RX10 yX10_allHang wsX10_allHang) := goodIn_app (goodIn_sub (sub_c (nq_m (n := 5) rfl) (sub_c (nq_m (n := 6) rfl) (sub_c (nq_m (n := 7) rfl) (sub_c (nq_m (n := 8) rfl) sub_n)))) (by decide +kernel)) ggX10_wanted_X10_allHang
set_option maxRecDepth 100000 in
theorem ggX10_wanted_X10_within : GoodIn wsX10_wanted wsX10_within := goodIn_sub (sub_c (nq_m (n := 24) rfl) sub_n) (by decide +kernel)
set_option maxRecDepth 100000 in
theorem gX10_wanted_X10_within : GoodIn wsX10_wanted (va_wsS RX10 67 yX10_within wsX10_within) := goodIn_app (goodIn_sub (sub_c (nq_m (n := 22) rfl) (sub_c (nq_m (n := 23) rfl) (sub_c (nq_m (n := 8) rfl) sub_n))) (by decide +kernel)) ggX10_wanted_X10_within
set_option maxRecDepth 100000 in
theorem ggX10_wanted_X9_load : GoodIn wsX10_wanted wsX9_load := goodIn_sub (sub_c (nq_m (n := 29) rfl) (sub_c (nq_m (n := 30) rfl) (sub_c (nq_m (n := 31) rfl) (sub_c (nq_m (n := 32) rfl) (sub_c (nq_m (n := 33) rfl) (sub_c (nq_m (n := 34) rfl) (sub_c (nq_m (n := 35) rfl) (sub_c (nq_m (n := 36) rfl) (sub_c (nq_m (n := 37) rfl) (sub_c (nq_m (n := 38) rfl) (sub_c (nq_m (n := 39) rfl) (sub_c (nq_m (n := 40) rfl) (sub_c (nq_m (n := 41) rfl) (sub_c (nq_m (n := 42) rfl) (sub_c (nq_m (n := 43) rfl) (sub_c (nq_m (n := 44) rfl) (sub_c (nq_m (n := 45) rfl) (sub_c (nq_m (n := 46) rfl) (sub_c (nq_m (n := 47) rfl) (sub_c (nq_m (n := 48) rfl) (sub_c (nq_m (n := 49) rfl) (sub_c (nq_m (n := 50) rfl) (sub_c (nq_m (n := 94) rfl) (sub_c (nq_m (n := 95) rfl) (sub_c (nq_m (n := 96) rfl) (sub_c (nq_m (n := 97) rfl) (sub_c (nq_m (n := 98) rfl) (sub_c (nq_m (n := 99) rfl) (sub_c (nq_m (n := 100) rfl) (sub_c (nq_m (n := 101) rfl) (sub_c (nq_m (n := 102) rfl) (sub_c (nq_m (n := 103) rfl) (sub_c (nq_m (n := 104) rfl) (sub_c (nq_m (n := 105) rfl) (sub_c (nq_m (n := 106) rfl) (sub_c (nq_m (n := 107) rfl) (sub_c (nq_m (n := 108) rfl) (sub_c (nq_m (n := 109) rfl) (sub_c (nq_m (n := 110) rfl) (sub_c (nq_m (n := 111) rfl) (sub_c (nq_m (n := 112) rfl) (sub_c (nq_m (n := 86) rfl) (sub_c (nq_m (n := 87) rfl) (sub_c (nq_m (n := 88) rfl) (sub_c (nq_m (n := 89) rfl) (sub_c (nq_m (n := 90) rfl) (sub_c (nq_m (n := 91) rfl) (sub_c (nq_m (n := 92) rfl) (sub_c (nq_m (n := 93) rfl) sub_n))))))))))))))))))))))))))))))))))))))))))))))))) (by decide +kernel)
set_option maxRecDepth 100000 in
theorem gX10_wanted_X9_load : GoodIn wsX10_wanted (wsV RX10 252 RX9 yX9_load wsX9_load) := goodIn_app (goodIn_sub (sub_c (nq_m (n := 25) rfl) (sub_c (nq_m (n := 26) rfl) (sub_c (nq_m (n := 27) rfl) (sub_c (nq_m (n := 28) rfl) sub_n)))) (by decide +kernel)) ggX10_wanted_X9_load
set_option maxRecDepth 100000 in
theorem ggX10_wanted_X9_serveFrom : GoodIn wsX10_wanted wsX9_serveFrom := goodIn_sub (sub_c (nq_m (n := 54) rfl) (sub_c (nq_m (n := 30) rfl) (sub_c (nq_m (n := 55) rfl) (sub_c (nq_m (n := 56) rfl) (sub_c (nq_m (n := 57) rfl) (sub_c (nq_m (n := 28) rfl) (sub_c (nq_m (n := 58) rfl) (sub_c (nq_m (n := 59) rfl) (sub_c (nq_m (n := 39) rfl) (sub_c (nq_m (n := 34) rfl) (sub_c (nq_m (n := 60) rfl) (sub_c (nq_m (n := 61) rfl) (sub_c (nq_m (n := 62) rfl) (sub_c (nq_m (n := 63) rfl) (sub_c (nq_m (n := 64) rfl) (sub_c (nq_m (n := 65) rfl) (sub_c (nq_m (n := 66) rfl) (sub_c (nq_m (n := 37) rfl) (sub_c (nq_m (n := 32) rfl) (sub_c (nq_m (n := 23) rfl) (sub_c (nq_m (n := 8) rfl) (sub_c (nq_m (n := 24) rfl) (sub_c (nq_m (n := 94) rfl) (sub_c (nq_m (n := 95) rfl) (sub_c (nq_m (n := 96) rfl) (sub_c (nq_m (n := 97) rfl) (sub_c (nq_m (n := 98) rfl) (sub_c (nq_m (n := 99) rfl) (sub_c (nq_m (n := 100) rfl) (sub_c (nq_m (n := 101) rfl) (sub_c (nq_m (n := 102) rfl) (sub_c (nq_m (n := 103) rfl) (sub_c (nq_m (n := 104) rfl) (sub_c (nq_m (n := 105) rfl) sub_n)))))))))))))))))))))))))))))))))) (by decide +kernel)
set_option maxRecDepth 100000 in
theorem gX10_wanted_X9_serveFrom : GoodIn wsX10_wanted (wsV RX10 256 RX9 yX9_serveFrom wsX9_serveFrom) := goodIn_app (goodIn_sub (sub_c (nq_m (n := 51) rfl) (sub_c (nq_m (n := 52) rfl) (sub_c (nq_m (n := 53) rfl) (sub_c (nq_m (n := 28) rfl) sub_n)))) (by decide +kernel)) ggX10_wanted_X9_serveFrom
set_option maxRecDepth 100000 in
theorem ggX10_wanted_X9_greatestWait : GoodIn wsX10_wanted wsX9_greatestWait := goodIn_sub (sub_c (nq_m (n := 70) rfl) (sub_c (nq_m (n := 61) rfl) (sub_c (nq_m (n := 30) rfl) (sub_c (nq_m (n := 94) rfl) (sub_c (nq_m (n := 95) rfl) (sub_c (nq_m (n := 96) rfl) (sub_c (nq_m (n := 97) rfl) (sub_c (nq_m (n := 98) rfl) (sub_c (nq_m (n := 99) rfl) (sub_c (nq_m (n := 100) rfl) (sub_c (nq_m (n := 101) rfl) (sub_c (nq_m (n := 102) rfl) (sub_c (nq_m (n := 103) rfl) (sub_c (nq_m (n := 104) rfl) (sub_c (nq_m (n := 105) rfl) sub_n))))))))))))))) (by decide +kernel)
set_option maxRecDepth 100000 in
theorem gX10_wanted_X9_greatestWait : GoodIn wsX10_wanted (wsV RX10 262 RX9 yX9_greatestWait wsX9_greatestWait) := goodIn_app (goodIn_sub (sub_c (nq_m (n := 67) rfl) (sub_c (nq_m (n := 68) rfl) (sub_c (nq_m (n := 69) rfl) (sub_c (nq_m (n := 28) rfl) sub_n)))) (by decide +kernel)) ggX10_wanted_X9_greatestWait
noncomputable def dX10_wanted_0_l : List (Nat × Instr × Nat) := [(0, .aload_n 0, 1), (1, .iload_n 1, 1), (2, .invokevirtual 249, 3), (5, .ifCond .ne 7, 3), (8, .sipush (-1001), 3), (11, .ireturn, 1), (12, .iload_n 2, 1), (13, .iconst 0, 1), (14, .sipush 9999, 3), (17, .invokestatic 67, 3), (20, .ifCond .ne 7, 3), (23, .sipush (-1002), 3), (26, .ireturn, 1), (27, .aload_n 0, 1), (28, .getfield 46, 3), (31, .iload_n 1, 1), (32, .aload_n 0, 1), (33, .getfield 26, 3), (36, .getfield 116, 3), (39, .aload_n 0, 1), (40, .getfield 10, 3), (43, .invokevirtual 252, 3), (46, .iconst 1, 1), (47, .istore_n 3, 1), (48, .iload_n 3, 1), (49, .iconst 4, 1), (50, .if_icmp .gt 31, 3), (53, .aload_n 0, 1), (54, .getfield 46, 3), (57, .iconst 0, 1), (58, .iload_n 3, 1), (59, .invokevirtual 256, 3), (62, .aload_n 0, 1), (63, .getfield 46, 3), (66, .invokevirtual 262, 3), (69, .iload_n 2, 1), (70, .if_icmp .gt 5, 3), (73, .iload_n 3, 1), (74, .ireturn, 1), (75, .iinc 3 1, 3)]
set_option maxRecDepth 100000 in
theorem dX10_wanted_0_g : dX10_wanted_0_l.all (fun x => decide (decode cX10_wanted x.1 = .ok x.2)) = true := by decide +kernel
theorem dX10_wanted_0 : decode cX10_wanted 0 = .ok (.aload_n 0, 1) := nq_d dX10_wanted_0_g (n := 0) rfl
theorem dX10_wanted_1 : decode cX10_wanted 1 = .ok (.iload_n 1, 1) := nq_d dX10_wanted_0_g (n := 1) rfl
theorem dX10_wanted_2 : decode cX10_wanted 2 = .ok (.invokevirtual 249, 3) := nq_d dX10_wanted_0_g (n := 2) rfl
theorem dX10_wanted_5 : decode cX10_wanted 5 = .ok (.ifCond .ne 7, 3) := nq_d dX10_wanted_0_g (n := 3) rfl
theorem dX10_wanted_8 : decode cX10_wanted 8 = .ok (.sipush (-1001), 3) := nq_d dX10_wanted_0_g (n := 4) rfl
theorem dX10_wanted_11 : decode cX10_wanted 11 = .ok (.ireturn, 1) := nq_d dX10_wanted_0_g (n := 5) rfl
theorem dX10_wanted_12 : decode cX10_wanted 12 = .ok (.iload_n 2, 1) := nq_d dX10_wanted_0_g (n := 6) rfl
theorem dX10_wanted_13 : decode cX10_wanted 13 = .ok (.iconst 0, 1) := nq_d dX10_wanted_0_g (n := 7) rfl
theorem dX10_wanted_14 : decode cX10_wanted 14 = .ok (.sipush 9999, 3) := nq_d dX10_wanted_0_g (n := 8) rfl
theorem dX10_wanted_17 : decode cX10_wanted 17 = .ok (.invokestatic 67, 3) := nq_d dX10_wanted_0_g (n := 9) rfl
theorem dX10_wanted_20 : decode cX10_wanted 20 = .ok (.ifCond .ne 7, 3) := nq_d dX10_wanted_0_g (n := 10) rfl
theorem dX10_wanted_23 : decode cX10_wanted 23 = .ok (.sipush (-1002), 3) := nq_d dX10_wanted_0_g (n := 11) rfl
theorem dX10_wanted_26 : decode cX10_wanted 26 = .ok (.ireturn, 1) := nq_d dX10_wanted_0_g (n := 12) rfl
theorem dX10_wanted_27 : decode cX10_wanted 27 = .ok (.aload_n 0, 1) := nq_d dX10_wanted_0_g (n := 13) rfl
theorem dX10_wanted_28 : decode cX10_wanted 28 = .ok (.getfield 46, 3) := nq_d dX10_wanted_0_g (n := 14) rfl
theorem dX10_wanted_31 : decode cX10_wanted 31 = .ok (.iload_n 1, 1) := nq_d dX10_wanted_0_g (n := 15) rfl
theorem dX10_wanted_32 : decode cX10_wanted 32 = .ok (.aload_n 0, 1) := nq_d dX10_wanted_0_g (n := 16) rfl
theorem dX10_wanted_33 : decode cX10_wanted 33 = .ok (.getfield 26, 3) := nq_d dX10_wanted_0_g (n := 17) rfl
theorem dX10_wanted_36 : decode cX10_wanted 36 = .ok (.getfield 116, 3) := nq_d dX10_wanted_0_g (n := 18) rfl
theorem dX10_wanted_39 : decode cX10_wanted 39 = .ok (.aload_n 0, 1) := nq_d dX10_wanted_0_g (n := 19) rfl
theorem dX10_wanted_40 : decode cX10_wanted 40 = .ok (.getfield 10, 3) := nq_d dX10_wanted_0_g (n := 20) rfl
theorem dX10_wanted_43 : decode cX10_wanted 43 = .ok (.invokevirtual 252, 3) := nq_d dX10_wanted_0_g (n := 21) rfl
theorem dX10_wanted_46 : decode cX10_wanted 46 = .ok (.iconst 1, 1) := nq_d dX10_wanted_0_g (n := 22) rfl
theorem dX10_wanted_47 : decode cX10_wanted 47 = .ok (.istore_n 3, 1) := nq_d dX10_wanted_0_g (n := 23) rfl
theorem dX10_wanted_48 : decode cX10_wanted 48 = .ok (.iload_n 3, 1) := nq_d dX10_wanted_0_g (n := 24) rfl
theorem dX10_wanted_49 : decode cX10_wanted 49 = .ok (.iconst 4, 1) := nq_d dX10_wanted_0_g (n := 25) rfl
theorem dX10_wanted_50 : decode cX10_wanted 50 = .ok (.if_icmp .gt 31, 3) := nq_d dX10_wanted_0_g (n := 26) rfl
theorem dX10_wanted_53 : decode cX10_wanted 53 = .ok (.aload_n 0, 1) := nq_d dX10_wanted_0_g (n := 27) rfl
theorem dX10_wanted_54 : decode cX10_wanted 54 = .ok (.getfield 46, 3) := nq_d dX10_wanted_0_g (n := 28) rfl
theorem dX10_wanted_57 : decode cX10_wanted 57 = .ok (.iconst 0, 1) := nq_d dX10_wanted_0_g (n := 29) rfl
theorem dX10_wanted_58 : decode cX10_wanted 58 = .ok (.iload_n 3, 1) := nq_d dX10_wanted_0_g (n := 30) rfl
theorem dX10_wanted_59 : decode cX10_wanted 59 = .ok (.invokevirtual 256, 3) := nq_d dX10_wanted_0_g (n := 31) rfl
theorem dX10_wanted_62 : decode cX10_wanted 62 = .ok (.aload_n 0, 1) := nq_d dX10_wanted_0_g (n := 32) rfl
theorem dX10_wanted_63 : decode cX10_wanted 63 = .ok (.getfield 46, 3) := nq_d dX10_wanted_0_g (n := 33) rfl
theorem dX10_wanted_66 : decode cX10_wanted 66 = .ok (.invokevirtual 262, 3) := nq_d dX10_wanted_0_g (n := 34) rfl
theorem dX10_wanted_69 : decode cX10_wanted 69 = .ok (.iload_n 2, 1) := nq_d dX10_wanted_0_g (n := 35) rfl
theorem dX10_wanted_70 : decode cX10_wanted 70 = .ok (.if_icmp .gt 5, 3) := nq_d dX10_wanted_0_g (n := 36) rfl
theorem dX10_wanted_73 : decode cX10_wanted 73 = .ok (.iload_n 3, 1) := nq_d dX10_wanted_0_g (n := 37) rfl
theorem dX10_wanted_74 : decode cX10_wanted 74 = .ok (.ireturn, 1) := nq_d dX10_wanted_0_g (n := 38) rfl
theorem dX10_wanted_75 : decode cX10_wanted 75 = .ok (.iinc 3 1, 3) := nq_d dX10_wanted_0_g (n := 39) rfl
noncomputable def dX10_wanted_78_l : List (Nat × Instr × Nat) := [(78, .goto (-30), 3), (81, .iconst (-1), 1), (82, .ireturn, 1)]
set_option maxRecDepth 100000 in
theorem dX10_wanted_78_g : dX10_wanted_78_l.all (fun x => decide (decode cX10_wanted x.1 = .ok x.2)) = true := by decide +kernel
theorem dX10_wanted_78 : decode cX10_wanted 78 = .ok (.goto (-30), 3) := nq_d dX10_wanted_78_g (n := 0) rfl
theorem dX10_wanted_81 : decode cX10_wanted 81 = .ok (.iconst (-1), 1) := nq_d dX10_wanted_78_g (n := 1) rfl
theorem dX10_wanted_82 : decode cX10_wanted 82 = .ok (.ireturn, 1) := nq_d dX10_wanted_78_g (n := 2) rfl
set_option maxRecDepth 100000 in
theorem ggX10_claim_X2_knows : GoodIn wsX10_claim wsX2_knows := goodIn_sub (sub_c (nq_m (n := 11) rfl) (sub_c (nq_m (n := 12) rfl) (sub_c (nq_m (n := 45) rfl) (sub_c (nq_m (n := 46) rfl) (sub_c (nq_m (n := 47) rfl) (sub_c (nq_m (n := 48) rfl) (sub_c (nq_m (n := 49) rfl) (sub_c (nq_m (n := 50) rfl) (sub_c (nq_m (n := 51) rfl) (sub_c (nq_m (n := 52) rfl) sub_n)))))))))) (by decide +kernel)
set_option maxRecDepth 100000 in
theorem gX10_claim_X2_knows : GoodIn wsX10_claim (wsV RX10 158 RX2 yX2_knows wsX2_knows) := goodIn_app (goodIn_sub (sub_c (nq_m (n := 7) rfl) (sub_c (nq_m (n := 8) rfl) (sub_c (nq_m (n := 9) rfl) (sub_c (nq_m (n := 10) rfl) sub_n)))) (by decide +kernel)) ggX10_claim_X2_knows
set_option maxRecDepth 100000 in
theorem ggX10_claim_X10_within : GoodIn wsX10_claim wsX10_within := goodIn_sub (sub_c (nq_m (n := 16) rfl) sub_n) (by decide +kernel)
set_option maxRecDepth 100000 in
theorem gX10_claim_X10_within : GoodIn wsX10_claim (va_wsS RX10 67 yX10_within wsX10_within) := goodIn_app (goodIn_sub (sub_c (nq_m (n := 13) rfl) (sub_c (nq_m (n := 14) rfl) (sub_c (nq_m (n := 15) rfl) sub_n))) (by decide +kernel)) ggX10_claim_X10_within
set_option maxRecDepth 100000 in
theorem ggX10_claim_X0_isOf : GoodIn wsX10_claim wsX0_isOf := goodIn_sub (sub_c (nq_m (n := 21) rfl) (sub_c (nq_m (n := 22) rfl) (sub_c (nq_m (n := 23) rfl) (sub_c (nq_m (n := 53) rfl) (sub_c (nq_m (n := 54) rfl) (sub_c (nq_m (n := 55) rfl) (sub_c (nq_m (n := 56) rfl) sub_n))))))) (by decide +kernel)
set_option maxRecDepth 100000 in
theorem gX10_claim_X0_isOf : GoodIn wsX10_claim (wsV RX10 283 RX0 yX0_isOf wsX0_isOf) := goodIn_app (goodIn_sub (sub_c (nq_m (n := 17) rfl) (sub_c (nq_m (n := 18) rfl) (sub_c (nq_m (n := 19) rfl) (sub_c (nq_m (n := 20) rfl) sub_n)))) (by decide +kernel)) ggX10_claim_X0_isOf
set_option maxRecDepth 100000 in
theorem ggX10_claim_X0_add : GoodIn wsX10_claim wsX0_add := goodIn_sub (sub_c (nq_m (n := 27) rfl) (sub_c (nq_m (n := 22) rfl) (sub_c (nq_m (n := 23) rfl) (sub_c (nq_m (n := 28) rfl) (sub_c (nq_m (n := 29) rfl) (sub_c (nq_m (n := 53) rfl) (sub_c (nq_m (n := 54) rfl) (sub_c (nq_m (n := 55) rfl) (sub_c (nq_m (n := 56) rfl) sub_n))))))))) (by decide +kernel)
set_option maxRecDepth 100000 in
theorem gX10_claim_X0_add : GoodIn wsX10_claim (wsV RX10 286 RX0 yX0_add wsX0_add) := goodIn_app (goodIn_sub (sub_c (nq_m (n := 24) rfl) (sub_c (nq_m (n := 25) rfl) (sub_c (nq_m (n := 26) rfl) (sub_c (nq_m (n := 20) rfl) sub_n)))) (by decide +kernel)) ggX10_claim_X0_add
noncomputable def dX10_claim_0_l : List (Nat × Instr × Nat) := [(0, .aload_n 0, 1), (1, .getfield 26, 3), (4, .getfield 116, 3), (7, .iload_n 1, 1), (8, .invokevirtual 158, 3), (11, .ifCond .ne 7, 3), (14, .sipush (-1001), 3), (17, .ireturn, 1), (18, .iload_n 2, 1), (19, .iconst 0, 1), (20, .sipush 255, 3), (23, .invokestatic 67, 3), (26, .ifCond .eq 20, 3), (29, .iload_n 3, 1), (30, .iconst 0, 1), (31, .sipush 255, 3), (34, .invokestatic 67, 3), (37, .ifCond .eq 9, 3), (40, .iload_n 2, 1), (41, .iload_n 3, 1), (42, .iand, 1), (43, .ifCond .eq 7, 3), (46, .sipush (-1002), 3), (49, .ireturn, 1), (50, .aload_n 0, 1), (51, .getfield 26, 3), (54, .getfield 116, 3), (57, .getfield 171, 3), (60, .iload_n 1, 1), (61, .iaload, 1), (62, .iconst (-1), 1), (63, .if_icmp .ne 33, 3), (66, .aload_n 0, 1), (67, .getfield 26, 3), (70, .getfield 116, 3), (73, .getfield 180, 3), (76, .iload_n 1, 1), (77, .iaload, 1), (78, .iconst (-1), 1), (79, .if_icmp .ne 17, 3)]
set_option maxRecDepth 100000 in
theorem dX10_claim_0_g : dX10_claim_0_l.all (fun x => decide (decode cX10_claim x.1 = .ok x.2)) = true := by decide +kernel
theorem dX10_claim_0 : decode cX10_claim 0 = .ok (.aload_n 0, 1) := nq_d dX10_claim_0_g (n := 0) rfl
theorem dX10_claim_1 : decode cX10_claim 1 = .ok (.getfield 26, 3) := nq_d dX10_claim_0_g (n := 1) rfl
theorem dX10_claim_4 : decode cX10_claim 4 = .ok (.getfield 116, 3) := nq_d dX10_claim_0_g (n := 2) rfl
theorem dX10_claim_7 : decode cX10_claim 7 = .ok (.iload_n 1, 1) := nq_d dX10_claim_0_g (n := 3) rfl
theorem dX10_claim_8 : decode cX10_claim 8 = .ok (.invokevirtual 158, 3) := nq_d dX10_claim_0_g (n := 4) rfl
theorem dX10_claim_11 : decode cX10_claim 11 = .ok (.ifCond .ne 7, 3) := nq_d dX10_claim_0_g (n := 5) rfl
theorem dX10_claim_14 : decode cX10_claim 14 = .ok (.sipush (-1001), 3) := nq_d dX10_claim_0_g (n := 6) rfl
theorem dX10_claim_17 : decode cX10_claim 17 = .ok (.ireturn, 1) := nq_d dX10_claim_0_g (n := 7) rfl
theorem dX10_claim_18 : decode cX10_claim 18 = .ok (.iload_n 2, 1) := nq_d dX10_claim_0_g (n := 8) rfl
theorem dX10_claim_19 : decode cX10_claim 19 = .ok (.iconst 0, 1) := nq_d dX10_claim_0_g (n := 9) rfl
theorem dX10_claim_20 : decode cX10_claim 20 = .ok (.sipush 255, 3) := nq_d dX10_claim_0_g (n := 10) rfl
theorem dX10_claim_23 : decode cX10_claim 23 = .ok (.invokestatic 67, 3) := nq_d dX10_claim_0_g (n := 11) rfl
theorem dX10_claim_26 : decode cX10_claim 26 = .ok (.ifCond .eq 20, 3) := nq_d dX10_claim_0_g (n := 12) rfl
theorem dX10_claim_29 : decode cX10_claim 29 = .ok (.iload_n 3, 1) := nq_d dX10_claim_0_g (n := 13) rfl
theorem dX10_claim_30 : decode cX10_claim 30 = .ok (.iconst 0, 1) := nq_d dX10_claim_0_g (n := 14) rfl
theorem dX10_claim_31 : decode cX10_claim 31 = .ok (.sipush 255, 3) := nq_d dX10_claim_0_g (n := 15) rfl
theorem dX10_claim_34 : decode cX10_claim 34 = .ok (.invokestatic 67, 3) := nq_d dX10_claim_0_g (n := 16) rfl
theorem dX10_claim_37 : decode cX10_claim 37 = .ok (.ifCond .eq 9, 3) := nq_d dX10_claim_0_g (n := 17) rfl
theorem dX10_claim_40 : decode cX10_claim 40 = .ok (.iload_n 2, 1) := nq_d dX10_claim_0_g (n := 18) rfl
theorem dX10_claim_41 : decode cX10_claim 41 = .ok (.iload_n 3, 1) := nq_d dX10_claim_0_g (n := 19) rfl
theorem dX10_claim_42 : decode cX10_claim 42 = .ok (.iand, 1) := nq_d dX10_claim_0_g (n := 20) rfl
theorem dX10_claim_43 : decode cX10_claim 43 = .ok (.ifCond .eq 7, 3) := nq_d dX10_claim_0_g (n := 21) rfl
theorem dX10_claim_46 : decode cX10_claim 46 = .ok (.sipush (-1002), 3) := nq_d dX10_claim_0_g (n := 22) rfl
theorem dX10_claim_49 : decode cX10_claim 49 = .ok (.ireturn, 1) := nq_d dX10_claim_0_g (n := 23) rfl
theorem dX10_claim_50 : decode cX10_claim 50 = .ok (.aload_n 0, 1) := nq_d dX10_claim_0_g (n := 24) rfl
theorem dX10_claim_51 : decode cX10_claim 51 = .ok (.getfield 26, 3) := nq_d dX10_claim_0_g (n := 25) rfl
theorem dX10_claim_54 : decode cX10_claim 54 = .ok (.getfield 116, 3) := nq_d dX10_claim_0_g (n := 26) rfl
theorem dX10_claim_57 : decode cX10_claim 57 = .ok (.getfield 171, 3) := nq_d dX10_claim_0_g (n := 27) rfl
theorem dX10_claim_60 : decode cX10_claim 60 = .ok (.iload_n 1, 1) := nq_d dX10_claim_0_g (n := 28) rfl
theorem dX10_claim_61 : decode cX10_claim 61 = .ok (.iaload, 1) := nq_d dX10_claim_0_g (n := 29) rfl
theorem dX10_claim_62 : decode cX10_claim 62 = .ok (.iconst (-1), 1) := nq_d dX10_claim_0_g (n := 30) rfl
theorem dX10_claim_63 : decode cX10_claim 63 = .ok (.if_icmp .ne 33, 3) := nq_d dX10_claim_0_g (n := 31) rfl
theorem dX10_claim_66 : decode cX10_claim 66 = .ok (.aload_n 0, 1) := nq_d dX10_claim_0_g (n := 32) rfl
theorem dX10_claim_67 : decode cX10_claim 67 = .ok (.getfield 26, 3) := nq_d dX10_claim_0_g (n := 33) rfl
theorem dX10_claim_70 : decode cX10_claim 70 = .ok (.getfield 116, 3) := nq_d dX10_claim_0_g (n := 34) rfl
theorem dX10_claim_73 : decode cX10_claim 73 = .ok (.getfield 180, 3) := nq_d dX10_claim_0_g (n := 35) rfl
theorem dX10_claim_76 : decode cX10_claim 76 = .ok (.iload_n 1, 1) := nq_d dX10_claim_0_g (n := 36) rfl
theorem dX10_claim_77 : decode cX10_claim 77 = .ok (.iaload, 1) := nq_d dX10_claim_0_g (n := 37) rfl
theorem dX10_claim_78 : decode cX10_claim 78 = .ok (.iconst (-1), 1) := nq_d dX10_claim_0_g (n := 38) rfl
theorem dX10_claim_79 : decode cX10_claim 79 = .ok (.if_icmp .ne 17, 3) := nq_d dX10_claim_0_g (n := 39) rfl
noncomputable def dX10_claim_82_l : List (Nat × Instr × Nat) := [(82, .aload_n 0, 1), (83, .getfield 26, 3), (86, .getfield 131, 3), (89, .iload_n 1, 1), (90, .invokevirtual 283, 3), (93, .ifCond .eq 7, 3), (96, .sipush (-1003), 3), (99, .ireturn, 1), (100, .aload_n 0, 1), (101, .getfield 26, 3), (104, .getfield 131, 3), (107, .getfield 135, 3), (110, .bipush 6, 2), (112, .if_icmp .lt 7, 3), (115, .sipush (-1004), 3), (118, .ireturn, 1), (119, .aload_n 0, 1), (120, .getfield 26, 3), (123, .getfield 131, 3), (126, .iload_n 1, 1), (127, .iload_n 2, 1), (128, .iload_n 3, 1), (129, .invokevirtual 286, 3), (132, .ireturn, 1)]
set_option maxRecDepth 100000 in
theorem dX10_claim_82_g : dX10_claim_82_l.all (fun x => decide (decode cX10_claim x.1 = .ok x.2)) = true := by decide +kernel
theorem dX10_claim_82 : decode cX10_claim 82 = .ok (.aload_n 0, 1) := nq_d dX10_claim_82_g (n := 0) rfl
theorem dX10_claim_83 : decode cX10_claim 83 = .ok (.getfield 26, 3) := nq_d dX10_claim_82_g (n := 1) rfl
theorem dX10_claim_86 : decode cX10_claim 86 = .ok (.getfield 131, 3) := nq_d dX10_claim_82_g (n := 2) rfl
theorem dX10_claim_89 : decode cX10_claim 89 = .ok (.iload_n 1, 1) := nq_d dX10_claim_82_g (n := 3) rfl
theorem dX10_claim_90 : decode cX10_claim 90 = .ok (.invokevirtual 283, 3) := nq_d dX10_claim_82_g (n := 4) rfl
theorem dX10_claim_93 : decode cX10_claim 93 = .ok (.ifCond .eq 7, 3) := nq_d dX10_claim_82_g (n := 5) rfl
theorem dX10_claim_96 : decode cX10_claim 96 = .ok (.sipush (-1003), 3) := nq_d dX10_claim_82_g (n := 6) rfl
theorem dX10_claim_99 : decode cX10_claim 99 = .ok (.ireturn, 1) := nq_d dX10_claim_82_g (n := 7) rfl
theorem dX10_claim_100 : decode cX10_claim 100 = .ok (.aload_n 0, 1) := nq_d dX10_claim_82_g (n := 8) rfl
theorem dX10_claim_101 : decode cX10_claim 101 = .ok (.getfield 26, 3) := nq_d dX10_claim_82_g (n := 9) rfl
theorem dX10_claim_104 : decode cX10_claim 104 = .ok (.getfield 131, 3) := nq_d dX10_claim_82_g (n := 10) rfl
theorem dX10_claim_107 : decode cX10_claim 107 = .ok (.getfield 135, 3) := nq_d dX10_claim_82_g (n := 11) rfl
theorem dX10_claim_110 : decode cX10_claim 110 = .ok (.bipush 6, 2) := nq_d dX10_claim_82_g (n := 12) rfl
theorem dX10_claim_112 : decode cX10_claim 112 = .ok (.if_icmp .lt 7, 3) := nq_d dX10_claim_82_g (n := 13) rfl
theorem dX10_claim_115 : decode cX10_claim 115 = .ok (.sipush (-1004), 3) := nq_d dX10_claim_82_g (n := 14) rfl
theorem dX10_claim_118 : decode cX10_claim 118 = .ok (.ireturn, 1) := nq_d dX10_claim_82_g (n := 15) rfl
theorem dX10_claim_119 : decode cX10_claim 119 = .ok (.aload_n 0, 1) := nq_d dX10_claim_82_g (n := 16) rfl
theorem dX10_claim_120 : decode cX10_claim 120 = .ok (.getfield 26, 3) := nq_d dX10_claim_82_g (n := 17) rfl
theorem dX10_claim_123 : decode cX10_claim 123 = .ok (.getfield 131, 3) := nq_d dX10_claim_82_g (n := 18) rfl
theorem dX10_claim_126 : decode cX10_claim 126 = .ok (.iload_n 1, 1) := nq_d dX10_claim_82_g (n := 19) rfl
theorem dX10_claim_127 : decode cX10_claim 127 = .ok (.iload_n 2, 1) := nq_d dX10_claim_82_g (n := 20) rfl
theorem dX10_claim_128 : decode cX10_claim 128 = .ok (.iload_n 3, 1) := nq_d dX10_claim_82_g (n := 21) rfl
theorem dX10_claim_129 : decode cX10_claim 129 = .ok (.invokevirtual 286, 3) := nq_d dX10_claim_82_g (n := 22) rfl
theorem dX10_claim_132 : decode cX10_claim 132 = .ok (.ireturn, 1) := nq_d dX10_claim_82_g (n := 23) rfl
set_option maxRecDepth 100000 in
theorem ggX10_fits_X0_knows : GoodIn wsX10_fits wsX0_knows := goodIn_sub (sub_c (nq_m (n := 8) rfl) (sub_c (nq_m (n := 9) rfl) (sub_c (nq_m (n := 55) rfl) (sub_c (nq_m (n := 56) rfl) (sub_c (nq_m (n := 57) rfl) (sub_c (nq_m (n := 58) rfl) sub_n)))))) (by decide +kernel)
set_option maxRecDepth 100000 in
theorem gX10_fits_X0_knows : GoodIn wsX10_fits (wsV RX10 288 RX0 yX0_knows wsX0_knows) := goodIn_app (goodIn_sub (sub_c (nq_m (n := 4) rfl) (sub_c (nq_m (n := 5) rfl) (sub_c (nq_m (n := 6) rfl) (sub_c (nq_m (n := 7) rfl) sub_n)))) (by decide +kernel)) ggX10_fits_X0_knows
set_option maxRecDepth 100000 in
theorem ggX10_fits_X0_thingsFor : GoodIn wsX10_fits wsX0_thingsFor := goodIn_sub (sub_c (nq_m (n := 13) rfl) (sub_c (nq_m (n := 14) rfl) (sub_c (nq_m (n := 15) rfl) (sub_c (nq_m (n := 16) rfl) (sub_c (nq_m (n := 17) rfl) (sub_c (nq_m (n := 18) rfl) (sub_c (nq_m (n := 5) rfl) (sub_c (nq_m (n := 6) rfl) (sub_c (nq_m (n := 7) rfl) (sub_c (nq_m (n := 8) rfl) (sub_c (nq_m (n := 9) rfl) (sub_c (nq_m (n := 19) rfl) (sub_c (nq_m (n := 20) rfl) (sub_c (nq_m (n := 21) rfl) (sub_c (nq_m (n := 22) rfl) (sub_c (nq_m (n := 23) rfl) (sub_c (nq_m (n := 24) rfl) (sub_c (nq_m (n := 25) rfl) (sub_c (nq_m (n := 26) rfl) (sub_c (nq_m (n := 27) rfl) (sub_c (nq_m (n := 28) rfl) (sub_c (nq_m (n := 29) rfl) (sub_c (nq_m (n := 30) rfl) (sub_c (nq_m (n := 31) rfl) (sub_c (nq_m (n := 32) rfl) (sub_c (nq_m (n := 33) rfl) (sub_c (nq_m (n := 34) rfl) (sub_c (nq_m (n := 35) rfl) (sub_c (nq_m (n := 36) rfl) (sub_c (nq_m (n := 37) rfl) (sub_c (nq_m (n := 38) rfl) (sub_c (nq_m (n := 39) rfl) (sub_c (nq_m (n := 55) rfl) (sub_c (nq_m (n := 56) rfl) (sub_c (nq_m (n := 57) rfl) (sub_c (nq_m (n := 58) rfl) (sub_c (nq_m (n := 59) rfl) (sub_c (nq_m (n := 60) rfl) (sub_c (nq_m (n := 61) rfl) (sub_c (nq_m (n := 62) rfl) (sub_c (nq_m (n := 63) rfl) (sub_c (nq_m (n := 64) rfl) (sub_c (nq_m (n := 65) rfl) (sub_c (nq_m (n := 66) rfl) sub_n)))))))))))))))))))))))))))))))))))))))))))) (by decide +kernel)
set_option maxRecDepth 100000 in
theorem gX10_fits_X0_thingsFor : GoodIn wsX10_fits (wsV RX10 289 RX0 yX0_thingsFor wsX0_thingsFor) := goodIn_app (goodIn_sub (sub_c (nq_m (n := 10) rfl) (sub_c (nq_m (n := 11) rfl) (sub_c (nq_m (n := 12) rfl) (sub_c (nq_m (n := 7) rfl) sub_n)))) (by decide +kernel)) ggX10_fits_X0_thingsFor
noncomputable def dX10_fits_0_l : List (Nat × Instr × Nat) := [(0, .aload_n 0, 1), (1, .getfield 26, 3), (4, .getfield 131, 3), (7, .iload_n 1, 1), (8, .invokevirtual 288, 3), (11, .ifCond .ne 7, 3), (14, .sipush (-1001), 3), (17, .ireturn, 1), (18, .aload_n 0, 1), (19, .getfield 26, 3), (22, .getfield 131, 3), (25, .iload_n 1, 1), (26, .aload_n 0, 1), (27, .getfield 26, 3), (30, .getfield 116, 3), (33, .invokevirtual 289, 3), (36, .ireturn, 1)]
set_option maxRecDepth 100000 in
theorem dX10_fits_0_g : dX10_fits_0_l.all (fun x => decide (decode cX10_fits x.1 = .ok x.2)) = true := by decide +kernel
theorem dX10_fits_0 : decode cX10_fits 0 = .ok (.aload_n 0, 1) := nq_d dX10_fits_0_g (n := 0) rfl
theorem dX10_fits_1 : decode cX10_fits 1 = .ok (.getfield 26, 3) := nq_d dX10_fits_0_g (n := 1) rfl
theorem dX10_fits_4 : decode cX10_fits 4 = .ok (.getfield 131, 3) := nq_d dX10_fits_0_g (n := 2) rfl
theorem dX10_fits_7 : decode cX10_fits 7 = .ok (.iload_n 1, 1) := nq_d dX10_fits_0_g (n := 3) rfl
theorem dX10_fits_8 : decode cX10_fits 8 = .ok (.invokevirtual 288, 3) := nq_d dX10_fits_0_g (n := 4) rfl
theorem dX10_fits_11 : decode cX10_fits 11 = .ok (.ifCond .ne 7, 3) := nq_d dX10_fits_0_g (n := 5) rfl
theorem dX10_fits_14 : decode cX10_fits 14 = .ok (.sipush (-1001), 3) := nq_d dX10_fits_0_g (n := 6) rfl
theorem dX10_fits_17 : decode cX10_fits 17 = .ok (.ireturn, 1) := nq_d dX10_fits_0_g (n := 7) rfl
theorem dX10_fits_18 : decode cX10_fits 18 = .ok (.aload_n 0, 1) := nq_d dX10_fits_0_g (n := 8) rfl
theorem dX10_fits_19 : decode cX10_fits 19 = .ok (.getfield 26, 3) := nq_d dX10_fits_0_g (n := 9) rfl
theorem dX10_fits_22 : decode cX10_fits 22 = .ok (.getfield 131, 3) := nq_d dX10_fits_0_g (n := 10) rfl
theorem dX10_fits_25 : decode cX10_fits 25 = .ok (.iload_n 1, 1) := nq_d dX10_fits_0_g (n := 11) rfl
theorem dX10_fits_26 : decode cX10_fits 26 = .ok (.aload_n 0, 1) := nq_d dX10_fits_0_g (n := 12) rfl
theorem dX10_fits_27 : decode cX10_fits 27 = .ok (.getfield 26, 3) := nq_d dX10_fits_0_g (n := 13) rfl
theorem dX10_fits_30 : decode cX10_fits 30 = .ok (.getfield 116, 3) := nq_d dX10_fits_0_g (n := 14) rfl
theorem dX10_fits_33 : decode cX10_fits 33 = .ok (.invokevirtual 289, 3) := nq_d dX10_fits_0_g (n := 15) rfl
theorem dX10_fits_36 : decode cX10_fits 36 = .ok (.ireturn, 1) := nq_d dX10_fits_0_g (n := 16) rfl
set_option maxRecDepth 100000 in
theorem ggX10_ways_X5_load : GoodIn wsX10_ways wsX5_load := goodIn_sub (sub_c (nq_m (n := 9) rfl) (sub_c (nq_m (n := 10) rfl) (sub_c (nq_m (n := 11) rfl) (sub_c (nq_m (n := 12) rfl) (sub_c (nq_m (n := 13) rfl) (sub_c (nq_m (n := 14) rfl) (sub_c (nq_m (n := 15) rfl) (sub_c (nq_m (n := 16) rfl) (sub_c (nq_m (n := 17) rfl) (sub_c (nq_m (n := 18) rfl) (sub_c (nq_m (n := 19) rfl) (sub_c (nq_m (n := 20) rfl) (sub_c (nq_m (n := 21) rfl) (sub_c (nq_m (n := 22) rfl) (sub_c (nq_m (n := 23) rfl) (sub_c (nq_m (n := 24) rfl) (sub_c (nq_m (n := 25) rfl) (sub_c (nq_m (n := 26) rfl) (sub_c (nq_m (n := 27) rfl) (sub_c (nq_m (n := 28) rfl) (sub_c (nq_m (n := 29) rfl) (sub_c (nq_m (n := 30) rfl) (sub_c (nq_m (n := 31) rfl) (sub_c (nq_m (n := 32) rfl) (sub_c (nq_m (n := 33) rfl) (sub_c (nq_m (n := 34) rfl) (sub_c (nq_m (n := 35) rfl) (sub_c (nq_m (n := 36) rfl) (sub_c (nq_m (n := 37) rfl) (sub_c (nq_m (n := 38) rfl) (sub_c (nq_m (n := 39) rfl) (sub_c (nq_m (n := 40) rfl) (sub_c (nq_m (n := 41) rfl) (sub_c (nq_m (n := 42) rfl) (sub_c (nq_m (n := 43) rfl) (sub_c (nq_m (n := 44) rfl) (sub_c (nq_m (n := 45) rfl) (sub_c (nq_m (n := 46) rfl) (sub_c (nq_m (n := 47) rfl) (sub_c (nq_m (n := 48) rfl) (sub_c (nq_m (n := 49) rfl) (sub_c (nq_m (n := 50) rfl) (sub_c (nq_m (n := 51) rfl) (sub_c (nq_m (n := 76) rfl) (sub_c (nq_m (n := 77) rfl) (sub_c (nq_m (n := 78) rfl) (sub_c (nq_m (n := 79) rfl) (sub_c (nq_m (n := 80) rfl) (sub_c (nq_m (n := 81) rfl) (sub_c (nq_m (n := 82) rfl) (sub_c (nq_m (n := 83) rfl) (sub_c (nq_m (n := 84) rfl) (sub_c (nq_m (n := 85) rfl) (sub_c (nq_m (n := 86) rfl) (sub_c (nq_m (n := 87) rfl) (sub_c (nq_m (n := 88) rfl) (sub_c (nq_m (n := 89) rfl) (sub_c (nq_m (n := 90) rfl) sub_n)))))))))))))))))))))))))))))))))))))))))))))))))))))))))) (by decide +kernel)
set_option maxRecDepth 100000 in
theorem gX10_ways_X5_load : GoodIn wsX10_ways (wsV RX10 293 RX5 yX5_load wsX5_load) := goodIn_app (goodIn_sub (sub_c (nq_m (n := 5) rfl) (sub_c (nq_m (n := 6) rfl) (sub_c (nq_m (n := 7) rfl) (sub_c (nq_m (n := 8) rfl) sub_n)))) (by decide +kernel)) ggX10_ways_X5_load
set_option maxRecDepth 100000 in
theorem ggX10_ways_X5_number : GoodIn wsX10_ways wsX5_number := goodIn_sub (sub_c (nq_m (n := 55) rfl) (sub_c (nq_m (n := 15) rfl) (sub_c (nq_m (n := 16) rfl) (sub_c (nq_m (n := 56) rfl) (sub_c (nq_m (n := 57) rfl) (sub_c (nq_m (n := 58) rfl) (sub_c (nq_m (n := 59) rfl) (sub_c (nq_m (n := 8) rfl) (sub_c (nq_m (n := 60) rfl) (sub_c (nq_m (n := 80) rfl) (sub_c (nq_m (n := 81) rfl) (sub_c (nq_m (n := 82) rfl) sub_n)))))))))))) (by decide +kernel)
set_option maxRecDepth 100000 in
theorem gX10_ways_X5_number : GoodIn wsX10_ways (wsV RX10 296 RX5 yX5_number wsX5_number) := goodIn_app (goodIn_sub (sub_c (nq_m (n := 52) rfl) (sub_c (nq_m (n := 53) rfl) (sub_c (nq_m (n := 54) rfl) (sub_c (nq_m (n := 8) rfl) sub_n)))) (by decide +kernel)) ggX10_ways_X5_number
noncomputable def dX10_ways_0_l : List (Nat × Instr × Nat) := [(0, .aload_n 0, 1), (1, .getfield 53, 3), (4, .aload_n 0, 1), (5, .getfield 26, 3), (8, .getfield 131, 3), (11, .aload_n 0, 1), (12, .getfield 26, 3), (15, .getfield 116, 3), (18, .invokevirtual 293, 3), (21, .aload_n 0, 1), (22, .getfield 53, 3), (25, .invokevirtual 296, 3), (28, .lreturn, 1)]
set_option maxRecDepth 100000 in
theorem dX10_ways_0_g : dX10_ways_0_l.all (fun x => decide (decode cX10_ways x.1 = .ok x.2)) = true := by decide +kernel
theorem dX10_ways_0 : decode cX10_ways 0 = .ok (.aload_n 0, 1) := nq_d dX10_ways_0_g (n := 0) rfl
theorem dX10_ways_1 : decode cX10_ways 1 = .ok (.getfield 53, 3) := nq_d dX10_ways_0_g (n := 1) rfl
theorem dX10_ways_4 : decode cX10_ways 4 = .ok (.aload_n 0, 1) := nq_d dX10_ways_0_g (n := 2) rfl
theorem dX10_ways_5 : decode cX10_ways 5 = .ok (.getfield 26, 3) := nq_d dX10_ways_0_g (n := 3) rfl
theorem dX10_ways_8 : decode cX10_ways 8 = .ok (.getfield 131, 3) := nq_d dX10_ways_0_g (n := 4) rfl
theorem dX10_ways_11 : decode cX10_ways 11 = .ok (.aload_n 0, 1) := nq_d dX10_ways_0_g (n := 5) rfl
theorem dX10_ways_12 : decode cX10_ways 12 = .ok (.getfield 26, 3) := nq_d dX10_ways_0_g (n := 6) rfl
theorem dX10_ways_15 : decode cX10_ways 15 = .ok (.getfield 116, 3) := nq_d dX10_ways_0_g (n := 7) rfl
theorem dX10_ways_18 : decode cX10_ways 18 = .ok (.invokevirtual 293, 3) := nq_d dX10_ways_0_g (n := 8) rfl
theorem dX10_ways_21 : decode cX10_ways 21 = .ok (.aload_n 0, 1) := nq_d dX10_ways_0_g (n := 9) rfl
theorem dX10_ways_22 : decode cX10_ways 22 = .ok (.getfield 53, 3) := nq_d dX10_ways_0_g (n := 10) rfl
theorem dX10_ways_25 : decode cX10_ways 25 = .ok (.invokevirtual 296, 3) := nq_d dX10_ways_0_g (n := 11) rfl
theorem dX10_ways_28 : decode cX10_ways 28 = .ok (.lreturn, 1) := nq_d dX10_ways_0_g (n := 12) rfl
set_option maxRecDepth 100000 in
theorem ggX10_sure_X0_knows : GoodIn wsX10_sure wsX0_knows := goodIn_sub (sub_c (nq_m (n := 9) rfl) (sub_c (nq_m (n := 10) rfl) (sub_c (nq_m (n := 84) rfl) (sub_c (nq_m (n := 85) rfl) (sub_c (nq_m (n := 86) rfl) (sub_c (nq_m (n := 87) rfl) sub_n)))))) (by decide +kernel)
set_option maxRecDepth 100000 in
theorem gX10_sure_X0_knows : GoodIn wsX10_sure (wsV RX10 288 RX0 yX0_knows wsX0_knows) := goodIn_app (goodIn_sub (sub_c (nq_m (n := 5) rfl) (sub_c (nq_m (n := 6) rfl) (sub_c (nq_m (n := 7) rfl) (sub_c (nq_m (n := 8) rfl) sub_n)))) (by decide +kernel)) ggX10_sure_X0_knows
set_option maxRecDepth 100000 in
theorem ggX10_sure_X5_load : GoodIn wsX10_sure wsX5_load := goodIn_sub (sub_c (nq_m (n := 15) rfl) (sub_c (nq_m (n := 16) rfl) (sub_c (nq_m (n := 17) rfl) (sub_c (nq_m (n := 18) rfl) (sub_c (nq_m (n := 19) rfl) (sub_c (nq_m (n := 20) rfl) (sub_c (nq_m (n := 21) rfl) (sub_c (nq_m (n := 22) rfl) (sub_c (nq_m (n := 23) rfl) (sub_c (nq_m (n := 24) rfl) (sub_c (nq_m (n := 25) rfl) (sub_c (nq_m (n := 8) rfl) (sub_c (nq_m (n := 26) rfl) (sub_c (nq_m (n := 27) rfl) (sub_c (nq_m (n := 28) rfl) (sub_c (nq_m (n := 29) rfl) (sub_c (nq_m (n := 30) rfl) (sub_c (nq_m (n := 31) rfl) (sub_c (nq_m (n := 6) rfl) (sub_c (nq_m (n := 7) rfl) (sub_c (nq_m (n := 9) rfl) (sub_c (nq_m (n := 10) rfl) (sub_c (nq_m (n := 32) rfl) (sub_c (nq_m (n := 33) rfl) (sub_c (nq_m (n := 34) rfl) (sub_c (nq_m (n := 35) rfl) (sub_c (nq_m (n := 36) rfl) (sub_c (nq_m (n := 37) rfl) (sub_c (nq_m (n := 38) rfl) (sub_c (nq_m (n := 39) rfl) (sub_c (nq_m (n := 40) rfl) (sub_c (nq_m (n := 41) rfl) (sub_c (nq_m (n := 42) rfl) (sub_c (nq_m (n := 43) rfl) (sub_c (nq_m (n := 44) rfl) (sub_c (nq_m (n := 45) rfl) (sub_c (nq_m (n := 46) rfl) (sub_c (nq_m (n := 47) rfl) (sub_c (nq_m (n := 48) rfl) (sub_c (nq_m (n := 49) rfl) (sub_c (nq_m (n := 50) rfl) (sub_c (nq_m (n := 51) rfl) (sub_c (nq_m (n := 52) rfl) (sub_c (nq_m (n := 84) rfl) (sub_c (nq_m (n := 85) rfl) (sub_c (nq_m (n := 86) rfl) (sub_c (nq_m (n := 87) rfl) (sub_c (nq_m (n := 88) rfl) (sub_c (nq_m (n := 89) rfl) (sub_c (nq_m (n := 90) rfl) (sub_c (nq_m (n := 91) rfl) (sub_c (nq_m (n := 92) rfl) (sub_c (nq_m (n := 93) rfl) (sub_c (nq_m (n := 94) rfl) (sub_c (nq_m (n := 95) rfl) (sub_c (nq_m (n := 96) rfl) (sub_c (nq_m (n := 97) rfl) (sub_c (nq_m (n := 98) rfl) sub_n)))))))))))))))))))))))))))))))))))))))))))))))))))))))))) (by decide +kernel)
set_option maxRecDepth 100000 in
theorem gX10_sure_X5_load : GoodIn wsX10_sure (wsV RX10 293 RX5 yX5_load wsX5_load) := goodIn_app (goodIn_sub (sub_c (nq_m (n := 11) rfl) (sub_c (nq_m (n := 12) rfl) (sub_c (nq_m (n := 13) rfl) (sub_c (nq_m (n := 14) rfl) sub_n)))) (by decide +kernel)) ggX10_sure_X5_load
set_option maxRecDepth 100000 in
theorem ggX10_sure_X5_onlyThingOf : GoodIn wsX10_sure wsX5_onlyThingOf := goodIn_sub (sub_c (nq_m (n := 56) rfl) (sub_c (nq_m (n := 21) rfl) (sub_c (nq_m (n := 22) rfl) (sub_c (nq_m (n := 57) rfl) (sub_c (nq_m (n := 58) rfl) (sub_c (nq_m (n := 59) rfl) (sub_c (nq_m (n := 60) rfl) (sub_c (nq_m (n := 61) rfl) (sub_c (nq_m (n := 62) rfl) (sub_c (nq_m (n := 14) rfl) (sub_c (nq_m (n := 63) rfl) (sub_c (nq_m (n := 64) rfl) (sub_c (nq_m (n := 65) rfl) (sub_c (nq_m (n := 66) rfl) (sub_c (nq_m (n := 67) rfl) (sub_c (nq_m (n := 68) rfl) (sub_c (nq_m (n := 88) rfl) (sub_c (nq_m (n := 89) rfl) (sub_c (nq_m (n := 90) rfl) sub_n))))))))))))))))))) (by decide +kernel)
set_option maxRecDepth 100000 in
theorem gX10_sure_X5_onlyThingOf : GoodIn wsX10_sure (wsV RX10 299 RX5 yX5_onlyThingOf wsX5_onlyThingOf) := goodIn_app (goodIn_sub (sub_c (nq_m (n := 53) rfl) (sub_c (nq_m (n := 54) rfl) (sub_c (nq_m (n := 55) rfl) (sub_c (nq_m (n := 14) rfl) sub_n)))) (by decide +kernel)) ggX10_sure_X5_onlyThingOf
noncomputable def dX10_sure_0_l : List (Nat × Instr × Nat) := [(0, .aload_n 0, 1), (1, .getfield 26, 3), (4, .getfield 131, 3), (7, .iload_n 1, 1), (8, .invokevirtual 288, 3), (11, .ifCond .ne 7, 3), (14, .sipush (-1001), 3), (17, .ireturn, 1), (18, .aload_n 0, 1), (19, .getfield 53, 3), (22, .aload_n 0, 1), (23, .getfield 26, 3), (26, .getfield 131, 3), (29, .aload_n 0, 1), (30, .getfield 26, 3), (33, .getfield 116, 3), (36, .invokevirtual 293, 3), (39, .aload_n 0, 1), (40, .getfield 53, 3), (43, .iload_n 1, 1), (44, .invokevirtual 299, 3), (47, .ireturn, 1)]
set_option maxRecDepth 100000 in
theorem dX10_sure_0_g : dX10_sure_0_l.all (fun x => decide (decode cX10_sure x.1 = .ok x.2)) = true := by decide +kernel
theorem dX10_sure_0 : decode cX10_sure 0 = .ok (.aload_n 0, 1) := nq_d dX10_sure_0_g (n := 0) rfl
theorem dX10_sure_1 : decode cX10_sure 1 = .ok (.getfield 26, 3) := nq_d dX10_sure_0_g (n := 1) rfl
theorem dX10_sure_4 : decode cX10_sure 4 = .ok (.getfield 131, 3) := nq_d dX10_sure_0_g (n := 2) rfl
theorem dX10_sure_7 : decode cX10_sure 7 = .ok (.iload_n 1, 1) := nq_d dX10_sure_0_g (n := 3) rfl
theorem dX10_sure_8 : decode cX10_sure 8 = .ok (.invokevirtual 288, 3) := nq_d dX10_sure_0_g (n := 4) rfl
theorem dX10_sure_11 : decode cX10_sure 11 = .ok (.ifCond .ne 7, 3) := nq_d dX10_sure_0_g (n := 5) rfl
theorem dX10_sure_14 : decode cX10_sure 14 = .ok (.sipush (-1001), 3) := nq_d dX10_sure_0_g (n := 6) rfl
theorem dX10_sure_17 : decode cX10_sure 17 = .ok (.ireturn, 1) := nq_d dX10_sure_0_g (n := 7) rfl
theorem dX10_sure_18 : decode cX10_sure 18 = .ok (.aload_n 0, 1) := nq_d dX10_sure_0_g (n := 8) rfl
theorem dX10_sure_19 : decode cX10_sure 19 = .ok (.getfield 53, 3) := nq_d dX10_sure_0_g (n := 9) rfl
theorem dX10_sure_22 : decode cX10_sure 22 = .ok (.aload_n 0, 1) := nq_d dX10_sure_0_g (n := 10) rfl
theorem dX10_sure_23 : decode cX10_sure 23 = .ok (.getfield 26, 3) := nq_d dX10_sure_0_g (n := 11) rfl
theorem dX10_sure_26 : decode cX10_sure 26 = .ok (.getfield 131, 3) := nq_d dX10_sure_0_g (n := 12) rfl
theorem dX10_sure_29 : decode cX10_sure 29 = .ok (.aload_n 0, 1) := nq_d dX10_sure_0_g (n := 13) rfl
theorem dX10_sure_30 : decode cX10_sure 30 = .ok (.getfield 26, 3) := nq_d dX10_sure_0_g (n := 14) rfl
theorem dX10_sure_33 : decode cX10_sure 33 = .ok (.getfield 116, 3) := nq_d dX10_sure_0_g (n := 15) rfl
theorem dX10_sure_36 : decode cX10_sure 36 = .ok (.invokevirtual 293, 3) := nq_d dX10_sure_0_g (n := 16) rfl
theorem dX10_sure_39 : decode cX10_sure 39 = .ok (.aload_n 0, 1) := nq_d dX10_sure_0_g (n := 17) rfl
theorem dX10_sure_40 : decode cX10_sure 40 = .ok (.getfield 53, 3) := nq_d dX10_sure_0_g (n := 18) rfl
theorem dX10_sure_43 : decode cX10_sure 43 = .ok (.iload_n 1, 1) := nq_d dX10_sure_0_g (n := 19) rfl
theorem dX10_sure_44 : decode cX10_sure 44 = .ok (.invokevirtual 299, 3) := nq_d dX10_sure_0_g (n := 20) rfl
theorem dX10_sure_47 : decode cX10_sure 47 = .ok (.ireturn, 1) := nq_d dX10_sure_0_g (n := 21) rfl
set_option maxRecDepth 100000 in
theorem ggX10_grant_X0_knows : GoodIn wsX10_grant wsX0_knows := goodIn_sub (sub_c (nq_m (n := 9) rfl) (sub_c (nq_m (n := 10) rfl) (sub_c (nq_m (n := 97) rfl) (sub_c (nq_m (n := 98) rfl) (sub_c (nq_m (n := 99) rfl) (sub_c (nq_m (n := 100) rfl) sub_n)))))) (by decide +kernel)
set_option maxRecDepth 100000 in
theorem gX10_grant_X0_knows : GoodIn wsX10_grant (wsV RX10 288 RX0 yX0_knows wsX0_knows) := goodIn_app (goodIn_sub (sub_c (nq_m (n := 5) rfl) (sub_c (nq_m (n := 6) rfl) (sub_c (nq_m (n := 7) rfl) (sub_c (nq_m (n := 8) rfl) sub_n)))) (by decide +kernel)) ggX10_grant_X0_knows
set_option maxRecDepth 100000 in
theorem ggX10_grant_X5_load : GoodIn wsX10_grant wsX5_load := goodIn_sub (sub_c (nq_m (n := 15) rfl) (sub_c (nq_m (n := 16) rfl) (sub_c (nq_m (n := 17) rfl) (sub_c (nq_m (n := 18) rfl) (sub_c (nq_m (n := 19) rfl) (sub_c (nq_m (n := 20) rfl) (sub_c (nq_m (n := 21) rfl) (sub_c (nq_m (n := 22) rfl) (sub_c (nq_m (n := 23) rfl) (sub_c (nq_m (n := 24) rfl) (sub_c (nq_m (n := 25) rfl) (sub_c (nq_m (n := 8) rfl) (sub_c (nq_m (n := 26) rfl) (sub_c (nq_m (n := 27) rfl) (sub_c (nq_m (n := 28) rfl) (sub_c (nq_m (n := 29) rfl) (sub_c (nq_m (n := 30) rfl) (sub_c (nq_m (n := 31) rfl) (sub_c (nq_m (n := 6) rfl) (sub_c (nq_m (n := 7) rfl) (sub_c (nq_m (n := 9) rfl) (sub_c (nq_m (n := 10) rfl) (sub_c (nq_m (n := 32) rfl) (sub_c (nq_m (n := 33) rfl) (sub_c (nq_m (n := 34) rfl) (sub_c (nq_m (n := 35) rfl) (sub_c (nq_m (n := 36) rfl) (sub_c (nq_m (n := 37) rfl) (sub_c (nq_m (n := 38) rfl) (sub_c (nq_m (n := 39) rfl) (sub_c (nq_m (n := 40) rfl) (sub_c (nq_m (n := 41) rfl) (sub_c (nq_m (n := 42) rfl) (sub_c (nq_m (n := 43) rfl) (sub_c (nq_m (n := 44) rfl) (sub_c (nq_m (n := 45) rfl) (sub_c (nq_m (n := 46) rfl) (sub_c (nq_m (n := 47) rfl) (sub_c (nq_m (n := 48) rfl) (sub_c (nq_m (n := 49) rfl) (sub_c (nq_m (n := 50) rfl) (sub_c (nq_m (n := 51) rfl) (sub_c (nq_m (n := 52) rfl) (sub_c (nq_m (n := 97) rfl) (sub_c (nq_m (n := 98) rfl) (sub_c (nq_m (n := 99) rfl) (sub_c (nq_m (n := 100) rfl) (sub_c (nq_m (n := 101) rfl) (sub_c (nq_m (n := 102) rfl) (sub_c (nq_m (n := 103) rfl) (sub_c (nq_m (n := 104) rfl) (sub_c (nq_m (n := 105) rfl) (sub_c (nq_m (n := 106) rfl) (sub_c (nq_m (n := 107) rfl) (sub_c (nq_m (n := 108) rfl) (sub_c (nq_m (n := 109) rfl) (sub_c (nq_m (n := 110) rfl) (sub_c (nq_m (n := 111) rfl) sub_n)))))))))))))))))))))))))))))))))))))))))))))))))))))))))) (by decide +kernel)
set_option maxRecDepth 100000 in
theorem gX10_grant_X5_load : GoodIn wsX10_grant (wsV RX10 293 RX5 yX5_load wsX5_load) := goodIn_app (goodIn_sub (sub_c (nq_m (n := 11) rfl) (sub_c (nq_m (n := 12) rfl) (sub_c (nq_m (n := 13) rfl) (sub_c (nq_m (n := 14) rfl) sub_n)))) (by decide +kernel)) ggX10_grant_X5_load
set_option maxRecDepth 100000 in
theorem ggX10_grant_X5_onlyThingOf : GoodIn wsX10_grant wsX5_onlyThingOf := goodIn_sub (sub_c (nq_m (n := 56) rfl) (sub_c (nq_m (n := 21) rfl) (sub_c (nq_m (n := 22) rfl) (sub_c (nq_m (n := 57) rfl) (sub_c (nq_m (n := 58) rfl) (sub_c (nq_m (n := 59) rfl) (sub_c (nq_m (n := 60) rfl) (sub_c (nq_m (n := 61) rfl) (sub_c (nq_m (n := 62) rfl) (sub_c (nq_m (n := 14) rfl) (sub_c (nq_m (n := 63) rfl) (sub_c (nq_m (n := 64) rfl) (sub_c (nq_m (n := 65) rfl) (sub_c (nq_m (n := 66) rfl) (sub_c (nq_m (n := 67) rfl) (sub_c (nq_m (n := 68) rfl) (sub_c (nq_m (n := 101) rfl) (sub_c (nq_m (n := 102) rfl) (sub_c (nq_m (n := 103) rfl) sub_n))))))))))))))))))) (by decide +kernel)
set_option maxRecDepth 100000 in
theorem gX10_grant_X5_onlyThingOf : GoodIn wsX10_grant (wsV RX10 299 RX5 yX5_onlyThingOf wsX5_onlyThingOf) := goodIn_app (goodIn_sub (sub_c (nq_m (n := 53) rfl) (sub_c (nq_m (n := 54) rfl) (sub_c (nq_m (n := 55) rfl) (sub_c (nq_m (n := 14) rfl) sub_n)))) (by decide +kernel)) ggX10_grant_X5_onlyThingOf
set_option maxRecDepth 100000 in
theorem ggX10_grant_X0_guestOf : GoodIn wsX10_grant wsX0_guestOf := goodIn_sub (sub_c (nq_m (n := 72) rfl) (sub_c (nq_m (n := 27) rfl) (sub_c (nq_m (n := 31) rfl) (sub_c (nq_m (n := 6) rfl) (sub_c (nq_m (n := 7) rfl) (sub_c (nq_m (n := 8) rfl) (sub_c (nq_m (n := 9) rfl) (sub_c (nq_m (n := 10) rfl) (sub_c (nq_m (n := 97) rfl) (sub_c (nq_m (n := 98) rfl) (sub_c (nq_m (n := 99) rfl) (sub_c (nq_m (n := 100) rfl) sub_n)))))))))))) (by decide +kernel)
set_option maxRecDepth 100000 in
theorem gX10_grant_X0_guestOf : GoodIn wsX10_grant (wsV RX10 302 RX0 yX0_guestOf wsX0_guestOf) := goodIn_app (goodIn_sub (sub_c (nq_m (n := 69) rfl) (sub_c (nq_m (n := 70) rfl) (sub_c (nq_m (n := 71) rfl) (sub_c (nq_m (n := 8) rfl) sub_n)))) (by decide +kernel)) ggX10_grant_X0_guestOf
set_option maxRecDepth 100000 in
theorem ggX10_grant_X2_handOver : GoodIn wsX10_grant wsX2_handOver := goodIn_sub (sub_c (nq_m (n := 76) rfl) (sub_c (nq_m (n := 52) rfl) (sub_c (nq_m (n := 77) rfl) (sub_c (nq_m (n := 38) rfl) (sub_c (nq_m (n := 39) rfl) (sub_c (nq_m (n := 40) rfl) (sub_c (nq_m (n := 35) rfl) (sub_c (nq_m (n := 41) rfl) (sub_c (nq_m (n := 42) rfl) (sub_c (nq_m (n := 104) rfl) (sub_c (nq_m (n := 105) rfl) (sub_c (nq_m (n := 106) rfl) (sub_c (nq_m (n := 107) rfl) (sub_c (nq_m (n := 108) rfl) (sub_c (nq_m (n := 109) rfl) (sub_c (nq_m (n := 110) rfl) (sub_c (nq_m (n := 111) rfl) sub_n))))))))))))))))) (by decide +kernel)
set_option maxRecDepth 100000 in
theorem gX10_grant_X2_handOver : GoodIn wsX10_grant (wsV RX10 223 RX2 yX2_handOver wsX2_handOver) := goodIn_app (goodIn_sub (sub_c (nq_m (n := 73) rfl) (sub_c (nq_m (n := 74) rfl) (sub_c (nq_m (n := 75) rfl) (sub_c (nq_m (n := 35) rfl) sub_n)))) (by decide +kernel)) ggX10_grant_X2_handOver
set_option maxRecDepth 100000 in
theorem ggX10_grant_X0_remove : GoodIn wsX10_grant wsX0_remove := goodIn_sub (sub_c (nq_m (n := 81) rfl) (sub_c (nq_m (n := 10) rfl) (sub_c (nq_m (n := 27) rfl) (sub_c (nq_m (n := 29) rfl) (sub_c (nq_m (n := 30) rfl) (sub_c (nq_m (n := 31) rfl) (sub_c (nq_m (n := 6) rfl) (sub_c (nq_m (n := 7) rfl) (sub_c (nq_m (n := 8) rfl) (sub_c (nq_m (n := 9) rfl) (sub_c (nq_m (n := 97) rfl) (sub_c (nq_m (n := 98) rfl) (sub_c (nq_m (n := 99) rfl) (sub_c (nq_m (n := 100) rfl) sub_n)))))))))))))) (by decide +kernel)
set_option maxRecDepth 100000 in
theorem gX10_grant_X0_remove : GoodIn wsX10_grant (wsV RX10 305 RX0 yX0_remove wsX0_remove) := goodIn_app (goodIn_sub (sub_c (nq_m (n := 78) rfl) (sub_c (nq_m (n := 79) rfl) (sub_c (nq_m (n := 80) rfl) (sub_c (nq_m (n := 8) rfl) sub_n)))) (by decide +kernel)) ggX10_grant_X0_remove
noncomputable def dX10_grant_0_l : List (Nat × Instr × Nat) := [(0, .aload_n 0, 1), (1, .getfield 26, 3), (4, .getfield 131, 3), (7, .iload_n 1, 1), (8, .invokevirtual 288, 3), (11, .ifCond .ne 7, 3), (14, .sipush (-1001), 3), (17, .ireturn, 1), (18, .aload_n 0, 1), (19, .getfield 53, 3), (22, .aload_n 0, 1), (23, .getfield 26, 3), (26, .getfield 131, 3), (29, .aload_n 0, 1), (30, .getfield 26, 3), (33, .getfield 116, 3), (36, .invokevirtual 293, 3), (39, .aload_n 0, 1), (40, .getfield 53, 3), (43, .iload_n 1, 1), (44, .invokevirtual 299, 3), (47, .istore_n 2, 1), (48, .iload_n 2, 1), (49, .iconst (-1), 1), (50, .if_icmp .ne 7, 3), (53, .sipush (-1003), 3), (56, .ireturn, 1), (57, .aload_n 0, 1), (58, .getfield 26, 3), (61, .getfield 116, 3), (64, .iload_n 2, 1), (65, .aload_n 0, 1), (66, .getfield 26, 3), (69, .getfield 131, 3), (72, .iload_n 1, 1), (73, .invokevirtual 302, 3), (76, .invokevirtual 223, 3), (79, .aload_n 0, 1), (80, .getfield 26, 3), (83, .getfield 131, 3)]
set_option maxRecDepth 100000 in
theorem dX10_grant_0_g : dX10_grant_0_l.all (fun x => decide (decode cX10_grant x.1 = .ok x.2)) = true := by decide +kernel
theorem dX10_grant_0 : decode cX10_grant 0 = .ok (.aload_n 0, 1) := nq_d dX10_grant_0_g (n := 0) rfl
theorem dX10_grant_1 : decode cX10_grant 1 = .ok (.getfield 26, 3) := nq_d dX10_grant_0_g (n := 1) rfl
theorem dX10_grant_4 : decode cX10_grant 4 = .ok (.getfield 131, 3) := nq_d dX10_grant_0_g (n := 2) rfl
theorem dX10_grant_7 : decode cX10_grant 7 = .ok (.iload_n 1, 1) := nq_d dX10_grant_0_g (n := 3) rfl
theorem dX10_grant_8 : decode cX10_grant 8 = .ok (.invokevirtual 288, 3) := nq_d dX10_grant_0_g (n := 4) rfl
theorem dX10_grant_11 : decode cX10_grant 11 = .ok (.ifCond .ne 7, 3) := nq_d dX10_grant_0_g (n := 5) rfl
theorem dX10_grant_14 : decode cX10_grant 14 = .ok (.sipush (-1001), 3) := nq_d dX10_grant_0_g (n := 6) rfl
theorem dX10_grant_17 : decode cX10_grant 17 = .ok (.ireturn, 1) := nq_d dX10_grant_0_g (n := 7) rfl
theorem dX10_grant_18 : decode cX10_grant 18 = .ok (.aload_n 0, 1) := nq_d dX10_grant_0_g (n := 8) rfl
theorem dX10_grant_19 : decode cX10_grant 19 = .ok (.getfield 53, 3) := nq_d dX10_grant_0_g (n := 9) rfl
theorem dX10_grant_22 : decode cX10_grant 22 = .ok (.aload_n 0, 1) := nq_d dX10_grant_0_g (n := 10) rfl
theorem dX10_grant_23 : decode cX10_grant 23 = .ok (.getfield 26, 3) := nq_d dX10_grant_0_g (n := 11) rfl
theorem dX10_grant_26 : decode cX10_grant 26 = .ok (.getfield 131, 3) := nq_d dX10_grant_0_g (n := 12) rfl
theorem dX10_grant_29 : decode cX10_grant 29 = .ok (.aload_n 0, 1) := nq_d dX10_grant_0_g (n := 13) rfl
theorem dX10_grant_30 : decode cX10_grant 30 = .ok (.getfield 26, 3) := nq_d dX10_grant_0_g (n := 14) rfl
theorem dX10_grant_33 : decode cX10_grant 33 = .ok (.getfield 116, 3) := nq_d dX10_grant_0_g (n := 15) rfl
theorem dX10_grant_36 : decode cX10_grant 36 = .ok (.invokevirtual 293, 3) := nq_d dX10_grant_0_g (n := 16) rfl
theorem dX10_grant_39 : decode cX10_grant 39 = .ok (.aload_n 0, 1) := nq_d dX10_grant_0_g (n := 17) rfl
theorem dX10_grant_40 : decode cX10_grant 40 = .ok (.getfield 53, 3) := nq_d dX10_grant_0_g (n := 18) rfl
theorem dX10_grant_43 : decode cX10_grant 43 = .ok (.iload_n 1, 1) := nq_d dX10_grant_0_g (n := 19) rfl
theorem dX10_grant_44 : decode cX10_grant 44 = .ok (.invokevirtual 299, 3) := nq_d dX10_grant_0_g (n := 20) rfl
theorem dX10_grant_47 : decode cX10_grant 47 = .ok (.istore_n 2, 1) := nq_d dX10_grant_0_g (n := 21) rfl
theorem dX10_grant_48 : decode cX10_grant 48 = .ok (.iload_n 2, 1) := nq_d dX10_grant_0_g (n := 22) rfl
theorem dX10_grant_49 : decode cX10_grant 49 = .ok (.iconst (-1), 1) := nq_d dX10_grant_0_g (n := 23) rfl
theorem dX10_grant_50 : decode cX10_grant 50 = .ok (.if_icmp .ne 7, 3) := nq_d dX10_grant_0_g (n := 24) rfl
theorem dX10_grant_53 : decode cX10_grant 53 = .ok (.sipush (-1003), 3) := nq_d dX10_grant_0_g (n := 25) rfl
theorem dX10_grant_56 : decode cX10_grant 56 = .ok (.ireturn, 1) := nq_d dX10_grant_0_g (n := 26) rfl
theorem dX10_grant_57 : decode cX10_grant 57 = .ok (.aload_n 0, 1) := nq_d dX10_grant_0_g (n := 27) rfl
theorem dX10_grant_58 : decode cX10_grant 58 = .ok (.getfield 26, 3) := nq_d dX10_grant_0_g (n := 28) rfl
theorem dX10_grant_61 : decode cX10_grant 61 = .ok (.getfield 116, 3) := nq_d dX10_grant_0_g (n := 29) rfl
theorem dX10_grant_64 : decode cX10_grant 64 = .ok (.iload_n 2, 1) := nq_d dX10_grant_0_g (n := 30) rfl
theorem dX10_grant_65 : decode cX10_grant 65 = .ok (.aload_n 0, 1) := nq_d dX10_grant_0_g (n := 31) rfl
theorem dX10_grant_66 : decode cX10_grant 66 = .ok (.getfield 26, 3) := nq_d dX10_grant_0_g (n := 32) rfl
theorem dX10_grant_69 : decode cX10_grant 69 = .ok (.getfield 131, 3) := nq_d dX10_grant_0_g (n := 33) rfl
theorem dX10_grant_72 : decode cX10_grant 72 = .ok (.iload_n 1, 1) := nq_d dX10_grant_0_g (n := 34) rfl
theorem dX10_grant_73 : decode cX10_grant 73 = .ok (.invokevirtual 302, 3) := nq_d dX10_grant_0_g (n := 35) rfl
theorem dX10_grant_76 : decode cX10_grant 76 = .ok (.invokevirtual 223, 3) := nq_d dX10_grant_0_g (n := 36) rfl
theorem dX10_grant_79 : decode cX10_grant 79 = .ok (.aload_n 0, 1) := nq_d dX10_grant_0_g (n := 37) rfl
theorem dX10_grant_80 : decode cX10_grant 80 = .ok (.getfield 26, 3) := nq_d dX10_grant_0_g (n := 38) rfl
theorem dX10_grant_83 : decode cX10_grant 83 = .ok (.getfield 131, 3) := nq_d dX10_grant_0_g (n := 39) rfl
noncomputable def dX10_grant_86_l : List (Nat × Instr × Nat) := [(86, .iload_n 1, 1), (87, .invokevirtual 305, 3), (90, .iload_n 2, 1), (91, .ireturn, 1)]
set_option maxRecDepth 100000 in
theorem dX10_grant_86_g : dX10_grant_86_l.all (fun x => decide (decode cX10_grant x.1 = .ok x.2)) = true := by decide +kernel
theorem dX10_grant_86 : decode cX10_grant 86 = .ok (.iload_n 1, 1) := nq_d dX10_grant_86_g (n := 0) rfl
theorem dX10_grant_87 : decode cX10_grant 87 = .ok (.invokevirtual 305, 3) := nq_d dX10_grant_86_g (n := 1) rfl
theorem dX10_grant_90 : decode cX10_grant 90 = .ok (.iload_n 2, 1) := nq_d dX10_grant_86_g (n := 2) rfl
theorem dX10_grant_91 : decode cX10_grant 91 = .ok (.ireturn, 1) := nq_d dX10_grant_86_g (n := 3) rfl
set_option maxRecDepth 100000 in
theorem ggX10_apart_X2_knows : GoodIn wsX10_apart wsX2_knows := goodIn_sub (sub_c (nq_m (n := 8) rfl) (sub_c (nq_m (n := 9) rfl) (sub_c (nq_m (n := 25) rfl) (sub_c (nq_m (n := 26) rfl) (sub_c (nq_m (n := 27) rfl) (sub_c (nq_m (n := 28) rfl) (sub_c (nq_m (n := 29) rfl) (sub_c (nq_m (n := 30) rfl) (sub_c (nq_m (n := 31) rfl) (sub_c (nq_m (n := 32) rfl) sub_n)))))))))) (by decide +kernel)
set_option maxRecDepth 100000 in
theorem gX10_apart_X2_knows : GoodIn wsX10_apart (wsV RX10 158 RX2 yX2_knows wsX2_knows) := goodIn_app (goodIn_sub (sub_c (nq_m (n := 4) rfl) (sub_c (nq_m (n := 5) rfl) (sub_c (nq_m (n := 6) rfl) (sub_c (nq_m (n := 7) rfl) sub_n)))) (by decide +kernel)) ggX10_apart_X2_knows
noncomputable def dX10_apart_0_l : List (Nat × Instr × Nat) := [(0, .aload_n 0, 1), (1, .getfield 26, 3), (4, .getfield 116, 3), (7, .iload_n 1, 1), (8, .invokevirtual 158, 3), (11, .ifCond .eq 17, 3), (14, .aload_n 0, 1), (15, .getfield 26, 3), (18, .getfield 116, 3), (21, .iload_n 2, 1), (22, .invokevirtual 158, 3), (25, .ifCond .ne 7, 3), (28, .sipush (-1001), 3), (31, .ireturn, 1), (32, .aload_n 0, 1), (33, .getfield 26, 3), (36, .getfield 116, 3), (39, .getfield 168, 3), (42, .iload_n 1, 1), (43, .iaload, 1), (44, .aload_n 0, 1), (45, .getfield 26, 3), (48, .getfield 116, 3), (51, .getfield 168, 3), (54, .iload_n 2, 1), (55, .iaload, 1), (56, .ixor, 1), (57, .ireturn, 1)]
set_option maxRecDepth 100000 in
theorem dX10_apart_0_g : dX10_apart_0_l.all (fun x => decide (decode cX10_apart x.1 = .ok x.2)) = true := by decide +kernel
theorem dX10_apart_0 : decode cX10_apart 0 = .ok (.aload_n 0, 1) := nq_d dX10_apart_0_g (n := 0) rfl
theorem dX10_apart_1 : decode cX10_apart 1 = .ok (.getfield 26, 3) := nq_d dX10_apart_0_g (n := 1) rfl
theorem dX10_apart_4 : decode cX10_apart 4 = .ok (.getfield 116, 3) := nq_d dX10_apart_0_g (n := 2) rfl
theorem dX10_apart_7 : decode cX10_apart 7 = .ok (.iload_n 1, 1) := nq_d dX10_apart_0_g (n := 3) rfl
theorem dX10_apart_8 : decode cX10_apart 8 = .ok (.invokevirtual 158, 3) := nq_d dX10_apart_0_g (n := 4) rfl
theorem dX10_apart_11 : decode cX10_apart 11 = .ok (.ifCond .eq 17, 3) := nq_d dX10_apart_0_g (n := 5) rfl
theorem dX10_apart_14 : decode cX10_apart 14 = .ok (.aload_n 0, 1) := nq_d dX10_apart_0_g (n := 6) rfl
theorem dX10_apart_15 : decode cX10_apart 15 = .ok (.getfield 26, 3) := nq_d dX10_apart_0_g (n := 7) rfl
theorem dX10_apart_18 : decode cX10_apart 18 = .ok (.getfield 116, 3) := nq_d dX10_apart_0_g (n := 8) rfl
theorem dX10_apart_21 : decode cX10_apart 21 = .ok (.iload_n 2, 1) := nq_d dX10_apart_0_g (n := 9) rfl
theorem dX10_apart_22 : decode cX10_apart 22 = .ok (.invokevirtual 158, 3) := nq_d dX10_apart_0_g (n := 10) rfl
theorem dX10_apart_25 : decode cX10_apart 25 = .ok (.ifCond .ne 7, 3) := nq_d dX10_apart_0_g (n := 11) rfl
theorem dX10_apart_28 : decode cX10_apart 28 = .ok (.sipush (-1001), 3) := nq_d dX10_apart_0_g (n := 12) rfl
theorem dX10_apart_31 : decode cX10_apart 31 = .ok (.ireturn, 1) := nq_d dX10_apart_0_g (n := 13) rfl
theorem dX10_apart_32 : decode cX10_apart 32 = .ok (.aload_n 0, 1) := nq_d dX10_apart_0_g (n := 14) rfl
theorem dX10_apart_33 : decode cX10_apart 33 = .ok (.getfield 26, 3) := nq_d dX10_apart_0_g (n := 15) rfl
theorem dX10_apart_36 : decode cX10_apart 36 = .ok (.getfield 116, 3) := nq_d dX10_apart_0_g (n := 16) rfl
theorem dX10_apart_39 : decode cX10_apart 39 = .ok (.getfield 168, 3) := nq_d dX10_apart_0_g (n := 17) rfl
theorem dX10_apart_42 : decode cX10_apart 42 = .ok (.iload_n 1, 1) := nq_d dX10_apart_0_g (n := 18) rfl
theorem dX10_apart_43 : decode cX10_apart 43 = .ok (.iaload, 1) := nq_d dX10_apart_0_g (n := 19) rfl
theorem dX10_apart_44 : decode cX10_apart 44 = .ok (.aload_n 0, 1) := nq_d dX10_apart_0_g (n := 20) rfl
theorem dX10_apart_45 : decode cX10_apart 45 = .ok (.getfield 26, 3) := nq_d dX10_apart_0_g (n := 21) rfl
theorem dX10_apart_48 : decode cX10_apart 48 = .ok (.getfield 116, 3) := nq_d dX10_apart_0_g (n := 22) rfl
theorem dX10_apart_51 : decode cX10_apart 51 = .ok (.getfield 168, 3) := nq_d dX10_apart_0_g (n := 23) rfl
theorem dX10_apart_54 : decode cX10_apart 54 = .ok (.iload_n 2, 1) := nq_d dX10_apart_0_g (n := 24) rfl
theorem dX10_apart_55 : decode cX10_apart 55 = .ok (.iaload, 1) := nq_d dX10_apart_0_g (n := 25) rfl
theorem dX10_apart_56 : decode cX10_apart 56 = .ok (.ixor, 1) := nq_d dX10_apart_0_g (n := 26) rfl
theorem dX10_apart_57 : decode cX10_apart 57 = .ok (.ireturn, 1) := nq_d dX10_apart_0_g (n := 27) rfl
set_option maxRecDepth 100000 in
theorem ggX10_asks_X0_knows : GoodIn wsX10_asks wsX0_knows := goodIn_sub (sub_c (nq_m (n := 8) rfl) (sub_c (nq_m (n := 9) rfl) (sub_c (nq_m (n := 73) rfl) (sub_c (nq_m (n := 74) rfl) (sub_c (nq_m (n := 75) rfl) (sub_c (nq_m (n := 76) rfl) sub_n)))))) (by decide +kernel)
set_option maxRecDepth 100000 in
theorem gX10_asks_X0_knows : GoodIn wsX10_asks (wsV RX10 288 RX0 yX0_knows wsX0_knows) := goodIn_app (goodIn_sub (sub_c (nq_m (n := 4) rfl) (sub_c (nq_m (n := 5) rfl) (sub_c (nq_m (n := 6) rfl) (sub_c (nq_m (n := 7) rfl) sub_n)))) (by decide +kernel)) ggX10_asks_X0_knows
set_option maxRecDepth 100000 in
theorem ggX10_asks_X0_fewestAsked : GoodIn wsX10_asks wsX0_fewestAsked := goodIn_sub (sub_c (nq_m (n := 13) rfl) (sub_c (nq_m (n := 14) rfl) (sub_c (nq_m (n := 15) rfl) (sub_c (nq_m (n := 16) rfl) (sub_c (nq_m (n := 7) rfl) (sub_c (nq_m (n := 17) rfl) (sub_c (nq_m (n := 18) rfl) (sub_c (nq_m (n := 19) rfl) (sub_c (nq_m (n := 20) rfl) (sub_c (nq_m (n := 21) rfl) (sub_c (nq_m (n := 22) rfl) (sub_c (nq_m (n := 5) rfl) (sub_c (nq_m (n := 6) rfl) (sub_c (nq_m (n := 8) rfl) (sub_c (nq_m (n := 9) rfl) (sub_c (nq_m (n := 23) rfl) (sub_c (nq_m (n := 24) rfl) (sub_c (nq_m (n := 25) rfl) (sub_c (nq_m (n := 26) rfl) (sub_c (nq_m (n := 27) rfl) (sub_c (nq_m (n := 28) rfl) (sub_c (nq_m (n := 29) rfl) (sub_c (nq_m (n := 30) rfl) (sub_c (nq_m (n := 31) rfl) (sub_c (nq_m (n := 32) rfl) (sub_c (nq_m (n := 33) rfl) (sub_c (nq_m (n := 34) rfl) (sub_c (nq_m (n := 35) rfl) (sub_c (nq_m (n := 36) rfl) (sub_c (nq_m (n := 37) rfl) (sub_c (nq_m (n := 38) rfl) (sub_c (nq_m (n := 39) rfl) (sub_c (nq_m (n := 40) rfl) (sub_c (nq_m (n := 41) rfl) (sub_c (nq_m (n := 42) rfl) (sub_c (nq_m (n := 43) rfl) (sub_c (nq_m (n := 44) rfl) (sub_c (nq_m (n := 45) rfl) (sub_c (nq_m (n := 46) rfl) (sub_c (nq_m (n := 47) rfl) (sub_c (nq_m (n := 48) rfl) (sub_c (nq_m (n := 49) rfl) (sub_c (nq_m (n := 50) rfl) (sub_c (nq_m (n := 51) rfl) (sub_c (nq_m (n := 52) rfl) (sub_c (nq_m (n := 53) rfl) (sub_c (nq_m (n := 54) rfl) (sub_c (nq_m (n := 55) rfl) (sub_c (nq_m (n := 56) rfl) (sub_c (nq_m (n := 57) rfl) (sub_c (nq_m (n := 73) rfl) (sub_c (nq_m (n := 74) rfl) (sub_c (nq_m (n := 75) rfl) (sub_c (nq_m (n := 76) rfl) (sub_c (nq_m (n := 77) rfl) (sub_c (nq_m (n := 78) rfl) (sub_c (nq_m (n := 79) rfl) (sub_c (nq_m (n := 80) rfl) (sub_c (nq_m (n := 81) rfl) (sub_c (nq_m (n := 82) rfl) (sub_c (nq_m (n := 83) rfl) (sub_c (nq_m (n := 84) rfl) sub_n)))))))))))))))))))))))))))))))))))))))))))))))))))))))))))))) (by decide +kernel)
set_option maxRecDepth 100000 in
theorem gX10_asks_X0_fewestAsked : GoodIn wsX10_asks (wsV RX10 308 RX0 yX0_fewestAsked wsX0_fewestAsked) := goodIn_app (goodIn_sub (sub_c (nq_m (n := 10) rfl) (sub_c (nq_m (n := 11) rfl) (sub_c (nq_m (n := 12) rfl) (sub_c (nq_m (n := 7) rfl) sub_n)))) (by decide +kernel)) ggX10_asks_X0_fewestAsked
noncomputable def dX10_asks_0_l : List (Nat × Instr × Nat) := [(0, .aload_n 0, 1), (1, .getfield 26, 3), (4, .getfield 131, 3), (7, .iload_n 1, 1), (8, .invokevirtual 288, 3), (11, .ifCond .ne 7, 3), (14, .sipush (-1001), 3), (17, .ireturn, 1), (18, .aload_n 0, 1), (19, .getfield 26, 3), (22, .getfield 131, 3), (25, .iload_n 1, 1), (26, .aload_n 0, 1), (27, .getfield 26, 3), (30, .getfield 116, 3), (33, .invokevirtual 308, 3), (36, .ireturn, 1)]
set_option maxRecDepth 100000 in
theorem dX10_asks_0_g : dX10_asks_0_l.all (fun x => decide (decode cX10_asks x.1 = .ok x.2)) = true := by decide +kernel
theorem dX10_asks_0 : decode cX10_asks 0 = .ok (.aload_n 0, 1) := nq_d dX10_asks_0_g (n := 0) rfl
theorem dX10_asks_1 : decode cX10_asks 1 = .ok (.getfield 26, 3) := nq_d dX10_asks_0_g (n := 1) rfl
theorem dX10_asks_4 : decode cX10_asks 4 = .ok (.getfield 131, 3) := nq_d dX10_asks_0_g (n := 2) rfl
theorem dX10_asks_7 : decode cX10_asks 7 = .ok (.iload_n 1, 1) := nq_d dX10_asks_0_g (n := 3) rfl
theorem dX10_asks_8 : decode cX10_asks 8 = .ok (.invokevirtual 288, 3) := nq_d dX10_asks_0_g (n := 4) rfl
theorem dX10_asks_11 : decode cX10_asks 11 = .ok (.ifCond .ne 7, 3) := nq_d dX10_asks_0_g (n := 5) rfl
theorem dX10_asks_14 : decode cX10_asks 14 = .ok (.sipush (-1001), 3) := nq_d dX10_asks_0_g (n := 6) rfl
theorem dX10_asks_17 : decode cX10_asks 17 = .ok (.ireturn, 1) := nq_d dX10_asks_0_g (n := 7) rfl
theorem dX10_asks_18 : decode cX10_asks 18 = .ok (.aload_n 0, 1) := nq_d dX10_asks_0_g (n := 8) rfl
theorem dX10_asks_19 : decode cX10_asks 19 = .ok (.getfield 26, 3) := nq_d dX10_asks_0_g (n := 9) rfl
theorem dX10_asks_22 : decode cX10_asks 22 = .ok (.getfield 131, 3) := nq_d dX10_asks_0_g (n := 10) rfl
theorem dX10_asks_25 : decode cX10_asks 25 = .ok (.iload_n 1, 1) := nq_d dX10_asks_0_g (n := 11) rfl
theorem dX10_asks_26 : decode cX10_asks 26 = .ok (.aload_n 0, 1) := nq_d dX10_asks_0_g (n := 12) rfl
theorem dX10_asks_27 : decode cX10_asks 27 = .ok (.getfield 26, 3) := nq_d dX10_asks_0_g (n := 13) rfl
theorem dX10_asks_30 : decode cX10_asks 30 = .ok (.getfield 116, 3) := nq_d dX10_asks_0_g (n := 14) rfl
theorem dX10_asks_33 : decode cX10_asks 33 = .ok (.invokevirtual 308, 3) := nq_d dX10_asks_0_g (n := 15) rfl
theorem dX10_asks_36 : decode cX10_asks 36 = .ok (.ireturn, 1) := nq_d dX10_asks_0_g (n := 16) rfl
set_option maxRecDepth 100000 in
theorem ggX10_keep_X10_imageOf : GoodIn wsX10_keep wsX10_imageOf := goodIn_sub (sub_c (nq_m (n := 7) rfl) (sub_c (nq_m (n := 8) rfl) (sub_c (nq_m (n := 9) rfl) (sub_c (nq_m (n := 10) rfl) (sub_c (nq_m (n := 11) rfl) (sub_c (nq_m (n := 6) rfl) (sub_c (nq_m (n := 12) rfl) (sub_c (nq_m (n := 65) rfl) (sub_c (nq_m (n := 66) rfl) (sub_c (nq_m (n := 67) rfl) (sub_c (nq_m (n := 68) rfl) (sub_c (nq_m (n := 69) rfl) (sub_c (nq_m (n := 70) rfl) (sub_c (nq_m (n := 71) rfl) (sub_c (nq_m (n := 72) rfl) (sub_c (nq_m (n := 73) rfl) (sub_c (nq_m (n := 74) rfl) sub_n))))))))))))))))) (by decide +kernel)
set_option maxRecDepth 100000 in
theorem gX10_keep_X10_imageOf : GoodIn wsX10_keep (wsV RX10 311 RX10 yX10_imageOf wsX10_imageOf) := goodIn_app (goodIn_sub (sub_c (nq_m (n := 3) rfl) (sub_c (nq_m (n := 4) rfl) (sub_c (nq_m (n := 5) rfl) (sub_c (nq_m (n := 6) rfl) sub_n)))) (by decide +kernel)) ggX10_keep_X10_imageOf
set_option maxRecDepth 100000 in
theorem ggX10_keep_X4_copyFrom : GoodIn wsX10_keep wsX4_copyFrom := goodIn_sub (sub_c (nq_m (n := 17) rfl) (sub_c (nq_m (n := 18) rfl) (sub_c (nq_m (n := 19) rfl) (sub_c (nq_m (n := 20) rfl) (sub_c (nq_m (n := 21) rfl) (sub_c (nq_m (n := 22) rfl) (sub_c (nq_m (n := 23) rfl) (sub_c (nq_m (n := 24) rfl) (sub_c (nq_m (n := 25) rfl) (sub_c (nq_m (n := 26) rfl) (sub_c (nq_m (n := 27) rfl) (sub_c (nq_m (n := 28) rfl) (sub_c (nq_m (n := 29) rfl) (sub_c (nq_m (n := 30) rfl) (sub_c (nq_m (n := 31) rfl) (sub_c (nq_m (n := 32) rfl) (sub_c (nq_m (n := 33) rfl) (sub_c (nq_m (n := 34) rfl) (sub_c (nq_m (n := 35) rfl) (sub_c (nq_m (n := 36) rfl) (sub_c (nq_m (n := 37) rfl) (sub_c (nq_m (n := 38) rfl) (sub_c (nq_m (n := 39) rfl) (sub_c (nq_m (n := 40) rfl) (sub_c (nq_m (n := 41) rfl) (sub_c (nq_m (n := 42) rfl) (sub_c (nq_m (n := 43) rfl) (sub_c (nq_m (n := 44) rfl) (sub_c (nq_m (n := 45) rfl) (sub_c (nq_m (n := 46) rfl) (sub_c (nq_m (n := 47) rfl) (sub_c (nq_m (n := 48) rfl) (sub_c (nq_m (n := 49) rfl) (sub_c (nq_m (n := 50) rfl) (sub_c (nq_m (n := 51) rfl) (sub_c (nq_m (n := 52) rfl) (sub_c (nq_m (n := 53) rfl) (sub_c (nq_m (n := 54) rfl) (sub_c (nq_m (n := 55) rfl) (sub_c (nq_m (n := 56) rfl) (sub_c (nq_m (n := 57) rfl) (sub_c (nq_m (n := 58) rfl) (sub_c (nq_m (n := 59) rfl) (sub_c (nq_m (n := 60) rfl) (sub_c (nq_m (n := 61) rfl) (sub_c (nq_m (n := 62) rfl) (sub_c (nq_m (n := 63) rfl) (sub_c (nq_m (n := 64) rfl) (sub_c (nq_m (n := 75) rfl) (sub_c (nq_m (n := 76) rfl) (sub_c (nq_m (n := 77) rfl) (sub_c (nq_m (n := 78) rfl) (sub_c (nq_m (n := 79) rfl) (sub_c (nq_m (n := 80) rfl) (sub_c (nq_m (n := 81) rfl) (sub_c (nq_m (n := 82) rfl) (sub_c (nq_m (n := 83) rfl) (sub_c (nq_m (n := 84) rfl) (sub_c (nq_m (n := 85) rfl) (sub_c (nq_m (n := 86) rfl) (sub_c (nq_m (n := 87) rfl) (sub_c (nq_m (n := 88) rfl) (sub_c (nq_m (n := 89) rfl) (sub_c (nq_m (n := 90) rfl) (sub_c (nq_m (n := 91) rfl) (sub_c (nq_m (n := 92) rfl) (sub_c (nq_m (n := 93) rfl) (sub_c (nq_m (n := 94) rfl) (sub_c (nq_m (n := 95) rfl) sub_n))))))))))))))))))))))))))))))))))))))))))))))))))))))))))))))))))))) (by decide +kernel)
set_option maxRecDepth 100000 in
theorem gX10_keep_X4_copyFrom : GoodIn wsX10_keep (wsV RX10 315 RX4 yX4_copyFrom wsX4_copyFrom) := goodIn_app (goodIn_sub (sub_c (nq_m (n := 13) rfl) (sub_c (nq_m (n := 14) rfl) (sub_c (nq_m (n := 15) rfl) (sub_c (nq_m (n := 16) rfl) sub_n)))) (by decide +kernel)) ggX10_keep_X4_copyFrom
noncomputable def dX10_keep_0_l : List (Nat × Instr × Nat) := [(0, .aload_n 0, 1), (1, .iload_n 1, 1), (2, .invokevirtual 311, 3), (5, .astore_n 2, 1), (6, .aload_n 2, 1), (7, .ifnonnull 7, 3), (10, .sipush (-1001), 3), (13, .ireturn, 1), (14, .aload_n 2, 1), (15, .aload_n 0, 1), (16, .getfield 26, 3), (19, .invokevirtual 315, 3), (22, .aload_n 2, 1), (23, .iconst 1, 1), (24, .putfield 95, 3), (27, .iconst 1, 1), (28, .ireturn, 1)]
set_option maxRecDepth 100000 in
theorem dX10_keep_0_g : dX10_keep_0_l.all (fun x => decide (decode cX10_keep x.1 = .ok x.2)) = true := by decide +kernel
theorem dX10_keep_0 : decode cX10_keep 0 = .ok (.aload_n 0, 1) := nq_d dX10_keep_0_g (n := 0) rfl
theorem dX10_keep_1 : decode cX10_keep 1 = .ok (.iload_n 1, 1) := nq_d dX10_keep_0_g (n := 1) rfl
theorem dX10_keep_2 : decode cX10_keep 2 = .ok (.invokevirtual 311, 3) := nq_d dX10_keep_0_g (n := 2) rfl
theorem dX10_keep_5 : decode cX10_keep 5 = .ok (.astore_n 2, 1) := nq_d dX10_keep_0_g (n := 3) rfl
theorem dX10_keep_6 : decode cX10_keep 6 = .ok (.aload_n 2, 1) := nq_d dX10_keep_0_g (n := 4) rfl
theorem dX10_keep_7 : decode cX10_keep 7 = .ok (.ifnonnull 7, 3) := nq_d dX10_keep_0_g (n := 5) rfl
theorem dX10_keep_10 : decode cX10_keep 10 = .ok (.sipush (-1001), 3) := nq_d dX10_keep_0_g (n := 6) rfl
theorem dX10_keep_13 : decode cX10_keep 13 = .ok (.ireturn, 1) := nq_d dX10_keep_0_g (n := 7) rfl
theorem dX10_keep_14 : decode cX10_keep 14 = .ok (.aload_n 2, 1) := nq_d dX10_keep_0_g (n := 8) rfl
theorem dX10_keep_15 : decode cX10_keep 15 = .ok (.aload_n 0, 1) := nq_d dX10_keep_0_g (n := 9) rfl
theorem dX10_keep_16 : decode cX10_keep 16 = .ok (.getfield 26, 3) := nq_d dX10_keep_0_g (n := 10) rfl
theorem dX10_keep_19 : decode cX10_keep 19 = .ok (.invokevirtual 315, 3) := nq_d dX10_keep_0_g (n := 11) rfl
theorem dX10_keep_22 : decode cX10_keep 22 = .ok (.aload_n 2, 1) := nq_d dX10_keep_0_g (n := 12) rfl
theorem dX10_keep_23 : decode cX10_keep 23 = .ok (.iconst 1, 1) := nq_d dX10_keep_0_g (n := 13) rfl
theorem dX10_keep_24 : decode cX10_keep 24 = .ok (.putfield 95, 3) := nq_d dX10_keep_0_g (n := 14) rfl
theorem dX10_keep_27 : decode cX10_keep 27 = .ok (.iconst 1, 1) := nq_d dX10_keep_0_g (n := 15) rfl
theorem dX10_keep_28 : decode cX10_keep 28 = .ok (.ireturn, 1) := nq_d dX10_keep_0_g (n := 16) rfl
set_option maxRecDepth 100000 in
theorem ggX10_goBack_X10_imageOf : GoodIn wsX10_goBack wsX10_imageOf := goodIn_sub (sub_c (nq_m (n := 7) rfl) (sub_c (nq_m (n := 8) rfl) (sub_c (nq_m (n := 9) rfl) (sub_c (nq_m (n := 10) rfl) (sub_c (nq_m (n := 11) rfl) (sub_c (nq_m (n := 6) rfl) (sub_c (nq_m (n := 12) rfl) (sub_c (nq_m (n := 70) rfl) (sub_c (nq_m (n := 71) rfl) (sub_c (nq_m (n := 72) rfl) (sub_c (nq_m (n := 73) rfl) (sub_c (nq_m (n := 74) rfl) (sub_c (nq_m (n := 75) rfl) (sub_c (nq_m (n := 76) rfl) (sub_c (nq_m (n := 77) rfl) (sub_c (nq_m (n := 78) rfl) (sub_c (nq_m (n := 79) rfl) sub_n))))))))))))))))) (by decide +kernel)
set_option maxRecDepth 100000 in
theorem gX10_goBack_X10_imageOf : GoodIn wsX10_goBack (wsV RX10 311 RX10 yX10_imageOf wsX10_imageOf) := goodIn_app (goodIn_sub (sub_c (nq_m (n := 3) rfl) (sub_c (nq_m (n := 4) rfl) (sub_c (nq_m (n := 5) rfl) (sub_c (nq_m (n := 6) rfl) sub_n)))) (by decide +kernel)) ggX10_goBack_X10_imageOf
set_option maxRecDepth 100000 in
theorem ggX10_goBack_X4_copyFrom : GoodIn wsX10_goBack wsX4_copyFrom := goodIn_sub (sub_c (nq_m (n := 17) rfl) (sub_c (nq_m (n := 18) rfl) (sub_c (nq_m (n := 19) rfl) (sub_c (nq_m (n := 20) rfl) (sub_c (nq_m (n := 21) rfl) (sub_c (nq_m (n := 22) rfl) (sub_c (nq_m (n := 23) rfl) (sub_c (nq_m (n := 24) rfl) (sub_c (nq_m (n := 25) rfl) (sub_c (nq_m (n := 26) rfl) (sub_c (nq_m (n := 27) rfl) (sub_c (nq_m (n := 28) rfl) (sub_c (nq_m (n := 29) rfl) (sub_c (nq_m (n := 30) rfl) (sub_c (nq_m (n := 31) rfl) (sub_c (nq_m (n := 32) rfl) (sub_c (nq_m (n := 33) rfl) (sub_c (nq_m (n := 34) rfl) (sub_c (nq_m (n := 35) rfl) (sub_c (nq_m (n := 36) rfl) (sub_c (nq_m (n := 37) rfl) (sub_c (nq_m (n := 38) rfl) (sub_c (nq_m (n := 39) rfl) (sub_c (nq_m (n := 40) rfl) (sub_c (nq_m (n := 41) rfl) (sub_c (nq_m (n := 42) rfl) (sub_c (nq_m (n := 43) rfl) (sub_c (nq_m (n := 44) rfl) (sub_c (nq_m (n := 45) rfl) (sub_c (nq_m (n := 46) rfl) (sub_c (nq_m (n := 47) rfl) (sub_c (nq_m (n := 48) rfl) (sub_c (nq_m (n := 49) rfl) (sub_c (nq_m (n := 50) rfl) (sub_c (nq_m (n := 51) rfl) (sub_c (nq_m (n := 52) rfl) (sub_c (nq_m (n := 53) rfl) (sub_c (nq_m (n := 54) rfl) (sub_c (nq_m (n := 55) rfl) (sub_c (nq_m (n := 56) rfl) (sub_c (nq_m (n := 57) rfl) (sub_c (nq_m (n := 58) rfl) (sub_c (nq_m (n := 59) rfl) (sub_c (nq_m (n := 60) rfl) (sub_c (nq_m (n := 61) rfl) (sub_c (nq_m (n := 62) rfl) (sub_c (nq_m (n := 63) rfl) (sub_c (nq_m (n := 64) rfl) (sub_c (nq_m (n := 65) rfl) (sub_c (nq_m (n := 66) rfl) (sub_c (nq_m (n := 67) rfl) (sub_c (nq_m (n := 68) rfl) (sub_c (nq_m (n := 69) rfl) (sub_c (nq_m (n := 80) rfl) (sub_c (nq_m (n := 81) rfl) (sub_c (nq_m (n := 82) rfl) (sub_c (nq_m (n := 83) rfl) (sub_c (nq_m (n := 84) rfl) (sub_c (nq_m (n := 85) rfl) (sub_c (nq_m (n := 86) rfl) (sub_c (nq_m (n := 87) rfl) (sub_c (nq_m (n := 88) rfl) (sub_c (nq_m (n := 89) rfl) (sub_c (nq_m (n := 90) rfl) (sub_c (nq_m (n := 91) rfl) (sub_c (nq_m (n := 92) rfl) (sub_c (nq_m (n := 93) rfl) (sub_c (nq_m (n := 94) rfl) (sub_c (nq_m (n := 95) rfl) sub_n))))))))))))))))))))))))))))))))))))))))))))))))))))))))))))))))))))) (by decide +kernel)
set_option maxRecDepth 100000 in
theorem gX10_goBack_X4_copyFrom : GoodIn wsX10_goBack (wsV RX10 315 RX4 yX4_copyFrom wsX4_copyFrom) := goodIn_app (goodIn_sub (sub_c (nq_m (n := 13) rfl) (sub_c (nq_m (n := 14) rfl) (sub_c (nq_m (n := 15) rfl) (sub_c (nq_m (n := 16) rfl) sub_n)))) (by decide +kernel)) ggX10_goBack_X4_copyFrom
noncomputable def dX10_goBack_0_l : List (Nat × Instr × Nat) := [(0, .aload_n 0, 1), (1, .iload_n 1, 1), (2, .invokevirtual 311, 3), (5, .astore_n 2, 1), (6, .aload_n 2, 1), (7, .ifnonnull 7, 3), (10, .sipush (-1001), 3), (13, .ireturn, 1), (14, .aload_n 2, 1), (15, .getfield 95, 3), (18, .ifCond .ne 7, 3), (21, .sipush (-1003), 3), (24, .ireturn, 1), (25, .aload_n 0, 1), (26, .getfield 26, 3), (29, .aload_n 2, 1), (30, .invokevirtual 315, 3), (33, .iconst 1, 1), (34, .ireturn, 1)]
set_option maxRecDepth 100000 in
theorem dX10_goBack_0_g : dX10_goBack_0_l.all (fun x => decide (decode cX10_goBack x.1 = .ok x.2)) = true := by decide +kernel
theorem dX10_goBack_0 : decode cX10_goBack 0 = .ok (.aload_n 0, 1) := nq_d dX10_goBack_0_g (n := 0) rfl
theorem dX10_goBack_1 : decode cX10_goBack 1 = .ok (.iload_n 1, 1) := nq_d dX10_goBack_0_g (n := 1) rfl
theorem dX10_goBack_2 : decode cX10_goBack 2 = .ok (.invokevirtual 311, 3) := nq_d dX10_goBack_0_g (n := 2) rfl
theorem dX10_goBack_5 : decode cX10_goBack 5 = .ok (.astore_n 2, 1) := nq_d dX10_goBack_0_g (n := 3) rfl
theorem dX10_goBack_6 : decode cX10_goBack 6 = .ok (.aload_n 2, 1) := nq_d dX10_goBack_0_g (n := 4) rfl
theorem dX10_goBack_7 : decode cX10_goBack 7 = .ok (.ifnonnull 7, 3) := nq_d dX10_goBack_0_g (n := 5) rfl
theorem dX10_goBack_10 : decode cX10_goBack 10 = .ok (.sipush (-1001), 3) := nq_d dX10_goBack_0_g (n := 6) rfl
theorem dX10_goBack_13 : decode cX10_goBack 13 = .ok (.ireturn, 1) := nq_d dX10_goBack_0_g (n := 7) rfl
theorem dX10_goBack_14 : decode cX10_goBack 14 = .ok (.aload_n 2, 1) := nq_d dX10_goBack_0_g (n := 8) rfl
theorem dX10_goBack_15 : decode cX10_goBack 15 = .ok (.getfield 95, 3) := nq_d dX10_goBack_0_g (n := 9) rfl
theorem dX10_goBack_18 : decode cX10_goBack 18 = .ok (.ifCond .ne 7, 3) := nq_d dX10_goBack_0_g (n := 10) rfl
theorem dX10_goBack_21 : decode cX10_goBack 21 = .ok (.sipush (-1003), 3) := nq_d dX10_goBack_0_g (n := 11) rfl
theorem dX10_goBack_24 : decode cX10_goBack 24 = .ok (.ireturn, 1) := nq_d dX10_goBack_0_g (n := 12) rfl
theorem dX10_goBack_25 : decode cX10_goBack 25 = .ok (.aload_n 0, 1) := nq_d dX10_goBack_0_g (n := 13) rfl
theorem dX10_goBack_26 : decode cX10_goBack 26 = .ok (.getfield 26, 3) := nq_d dX10_goBack_0_g (n := 14) rfl
theorem dX10_goBack_29 : decode cX10_goBack 29 = .ok (.aload_n 2, 1) := nq_d dX10_goBack_0_g (n := 15) rfl
theorem dX10_goBack_30 : decode cX10_goBack 30 = .ok (.invokevirtual 315, 3) := nq_d dX10_goBack_0_g (n := 16) rfl
theorem dX10_goBack_33 : decode cX10_goBack 33 = .ok (.iconst 1, 1) := nq_d dX10_goBack_0_g (n := 17) rfl
