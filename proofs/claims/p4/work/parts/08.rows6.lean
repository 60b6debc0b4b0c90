set_option maxRecDepth 100000 in
theorem gX11_hall_X11_bare : GoodIn wsX11_hall (wsV RX11 118 RX11 yX11_bare wsX11_bare) := goodIn_app (goodIn_sub (sub_c (nq_m (n := 6) rfl) (sub_c (nq_m (n := 7) rfl) (sub_c (nq_m (n := 8) rfl) (sub_c (nq_m (n := 9) rfl) sub_n)))) (by decide +kernel)) ggX11_hall_X11_bare
set_option maxRecDepth 100000 in
theorem ggX11_hall_X11_here : GoodIn wsX11_hall wsX11_here := goodIn_sub (sub_c (nq_m (n := 19) rfl) (sub_c (nq_m (n := 3) rfl) (sub_c (nq_m (n := 4) rfl) (sub_c (nq_m (n := 20) rfl) (sub_c (nq_m (n := 89) rfl) (sub_c (nq_m (n := 90) rfl) (sub_c (nq_m (n := 91) rfl) (sub_c (nq_m (n := 92) rfl) (sub_c (nq_m (n := 93) rfl) (sub_c (nq_m (n := 94) rfl) (sub_c (nq_m (n := 95) rfl) (sub_c (nq_m (n := 96) rfl) (sub_c (nq_m (n := 97) rfl) (sub_c (nq_m (n := 98) rfl) (sub_c (nq_m (n := 99) rfl) (sub_c (nq_m (n := 100) rfl) (sub_c (nq_m (n := 101) rfl) (sub_c (nq_m (n := 102) rfl) (sub_c (nq_m (n := 103) rfl) (sub_c (nq_m (n := 104) rfl) (sub_c (nq_m (n := 105) rfl) (sub_c (nq_m (n := 106) rfl) (sub_c (nq_m (n := 107) rfl) (sub_c (nq_m (n := 108) rfl) (sub_c (nq_m (n := 109) rfl) (sub_c (nq_m (n := 110) rfl) (sub_c (nq_m (n := 111) rfl) (sub_c (nq_m (n := 112) rfl) (sub_c (nq_m (n := 113) rfl) (sub_c (nq_m (n := 114) rfl) (sub_c (nq_m (n := 115) rfl) (sub_c (nq_m (n := 116) rfl) (sub_c (nq_m (n := 117) rfl) (sub_c (nq_m (n := 118) rfl) (sub_c (nq_m (n := 119) rfl) (sub_c (nq_m (n := 120) rfl) (sub_c (nq_m (n := 121) rfl) (sub_c (nq_m (n := 122) rfl) (sub_c (nq_m (n := 123) rfl) (sub_c (nq_m (n := 124) rfl) (sub_c (nq_m (n := 125) rfl) (sub_c (nq_m (n := 126) rfl) (sub_c (nq_m (n := 127) rfl) (sub_c (nq_m (n := 128) rfl) (sub_c (nq_m (n := 129) rfl) (sub_c (nq_m (n := 130) rfl) (sub_c (nq_m (n := 131) rfl) (sub_c (nq_m (n := 132) rfl) (sub_c (nq_m (n := 133) rfl) (sub_c (nq_m (n := 134) rfl) (sub_c (nq_m (n := 135) rfl) (sub_c (nq_m (n := 136) rfl) (sub_c (nq_m (n := 137) rfl) (sub_c (nq_m (n := 138) rfl) (sub_c (nq_m (n := 139) rfl) (sub_c (nq_m (n := 140) rfl) (sub_c (nq_m (n := 141) rfl) (sub_c (nq_m (n := 142) rfl) (sub_c (nq_m (n := 143) rfl) (sub_c (nq_m (n := 144) rfl) (sub_c (nq_m (n := 145) rfl) (sub_c (nq_m (n := 146) rfl) sub_n)))))))))))))))))))))))))))))))))))))))))))))))))))))))))))))) (by decide +kernel)
set_option maxRecDepth 100000 in
theorem gX11_hall_X11_here : GoodIn wsX11_hall (wsV RX11 138 RX11 yX11_here wsX11_here) := goodIn_app (goodIn_sub (sub_c (nq_m (n := 16) rfl) (sub_c (nq_m (n := 17) rfl) (sub_c (nq_m (n := 18) rfl) (sub_c (nq_m (n := 9) rfl) sub_n)))) (by decide +kernel)) ggX11_hall_X11_here
set_option maxRecDepth 100000 in
theorem ggX11_hall_X11_takeClause : GoodIn wsX11_hall wsX11_takeClause := goodIn_sub (sub_c (nq_m (n := 24) rfl) (sub_c (nq_m (n := 12) rfl) (sub_c (nq_m (n := 3) rfl) (sub_c (nq_m (n := 25) rfl) (sub_c (nq_m (n := 26) rfl) (sub_c (nq_m (n := 27) rfl) (sub_c (nq_m (n := 28) rfl) (sub_c (nq_m (n := 9) rfl) (sub_c (nq_m (n := 29) rfl) (sub_c (nq_m (n := 30) rfl) (sub_c (nq_m (n := 4) rfl) (sub_c (nq_m (n := 20) rfl) (sub_c (nq_m (n := 31) rfl) (sub_c (nq_m (n := 32) rfl) (sub_c (nq_m (n := 33) rfl) (sub_c (nq_m (n := 34) rfl) (sub_c (nq_m (n := 35) rfl) (sub_c (nq_m (n := 36) rfl) (sub_c (nq_m (n := 16) rfl) (sub_c (nq_m (n := 17) rfl) (sub_c (nq_m (n := 18) rfl) (sub_c (nq_m (n := 19) rfl) (sub_c (nq_m (n := 37) rfl) (sub_c (nq_m (n := 38) rfl) (sub_c (nq_m (n := 39) rfl) (sub_c (nq_m (n := 40) rfl) (sub_c (nq_m (n := 41) rfl) (sub_c (nq_m (n := 42) rfl) (sub_c (nq_m (n := 43) rfl) (sub_c (nq_m (n := 44) rfl) (sub_c (nq_m (n := 45) rfl) (sub_c (nq_m (n := 46) rfl) (sub_c (nq_m (n := 47) rfl) (sub_c (nq_m (n := 48) rfl) (sub_c (nq_m (n := 49) rfl) (sub_c (nq_m (n := 50) rfl) (sub_c (nq_m (n := 51) rfl) (sub_c (nq_m (n := 52) rfl) (sub_c (nq_m (n := 53) rfl) (sub_c (nq_m (n := 2) rfl) (sub_c (nq_m (n := 54) rfl) (sub_c (nq_m (n := 55) rfl) (sub_c (nq_m (n := 56) rfl) (sub_c (nq_m (n := 57) rfl) (sub_c (nq_m (n := 58) rfl) (sub_c (nq_m (n := 11) rfl) (sub_c (nq_m (n := 59) rfl) (sub_c (nq_m (n := 60) rfl) (sub_c (nq_m (n := 61) rfl) (sub_c (nq_m (n := 62) rfl) (sub_c (nq_m (n := 63) rfl) (sub_c (nq_m (n := 64) rfl) (sub_c (nq_m (n := 65) rfl) (sub_c (nq_m (n := 66) rfl) (sub_c (nq_m (n := 67) rfl) (sub_c (nq_m (n := 68) rfl) (sub_c (nq_m (n := 69) rfl) (sub_c (nq_m (n := 70) rfl) (sub_c (nq_m (n := 71) rfl) (sub_c (nq_m (n := 72) rfl) (sub_c (nq_m (n := 73) rfl) (sub_c (nq_m (n := 74) rfl) (sub_c (nq_m (n := 75) rfl) (sub_c (nq_m (n := 13) rfl) (sub_c (nq_m (n := 14) rfl) (sub_c (nq_m (n := 76) rfl) (sub_c (nq_m (n := 77) rfl) (sub_c (nq_m (n := 78) rfl) (sub_c (nq_m (n := 79) rfl) (sub_c (nq_m (n := 15) rfl) (sub_c (nq_m (n := 89) rfl) (sub_c (nq_m (n := 90) rfl) (sub_c (nq_m (n := 91) rfl) (sub_c (nq_m (n := 92) rfl) (sub_c (nq_m (n := 93) rfl) (sub_c (nq_m (n := 94) rfl) (sub_c (nq_m (n := 95) rfl) (sub_c (nq_m (n := 96) rfl) (sub_c (nq_m (n := 97) rfl) (sub_c (nq_m (n := 98) rfl) (sub_c (nq_m (n := 99) rfl) (sub_c (nq_m (n := 100) rfl) (sub_c (nq_m (n := 101) rfl) (sub_c (nq_m (n := 102) rfl) (sub_c (nq_m (n := 103) rfl) (sub_c (nq_m (n := 104) rfl) (sub_c (nq_m (n := 105) rfl) (sub_c (nq_m (n := 106) rfl) (sub_c (nq_m (n := 107) rfl) (sub_c (nq_m (n := 108) rfl) (sub_c (nq_m (n := 109) rfl) (sub_c (nq_m (n := 110) rfl) (sub_c (nq_m (n := 111) rfl) (sub_c (nq_m (n := 112) rfl) (sub_c (nq_m (n := 113) rfl) (sub_c (nq_m (n := 114) rfl) (sub_c (nq_m (n := 115) rfl) (sub_c (nq_m (n := 116) rfl) (sub_c (nq_m (n := 117) rfl) (sub_c (nq_m (n := 118) rfl) (sub_c (nq_m (n := 119) rfl) (sub_c (nq_m (n := 120) rfl) (sub_c (nq_m (n := 121) rfl) (sub_c (nq_m (n := 122) rfl) (sub_c (nq_m (n := 123) rfl) (sub_c (nq_m (n := 124) rfl) (sub_c (nq_m (n := 125) rfl) (sub_c (nq_m (n := 126) rfl) (sub_c (nq_m (n := 127) rfl) (sub_c (nq_m (n := 128) rfl) (sub_c (nq_m (n := 129) rfl) (sub_c (nq_m (n := 130) rfl) (sub_c (nq_m (n := 131) rfl) (sub_c (nq_m (n := 132) rfl) (sub_c (nq_m (n := 133) rfl) (sub_c (nq_m (n := 134) rfl) (sub_c (nq_m (n := 135) rfl) (sub_c (nq_m (n := 136) rfl) (sub_c (nq_m (n := 137) rfl) (sub_c (nq_m (n := 138) rfl) (sub_c (nq_m (n := 139) rfl) (sub_c (nq_m (n := 140) rfl) (sub_c (nq_m (n := 141) rfl) (sub_c (nq_m (n := 142) rfl) (sub_c (nq_m (n := 143) rfl) (sub_c (nq_m (n := 144) rfl) (sub_c (nq_m (n := 145) rfl) (sub_c (nq_m (n := 146) rfl) sub_n)))))))))))))))))))))))))))))))))))))))))))))))))))))))))))))))))))))))))))))))))))))))))))))))))))))))))))))))))))))))))))))))) (by decide +kernel)
set_option maxRecDepth 100000 in
theorem gX11_hall_X11_takeClause : GoodIn wsX11_hall (wsV RX11 218 RX11 yX11_takeClause wsX11_takeClause) := goodIn_app (goodIn_sub (sub_c (nq_m (n := 21) rfl) (sub_c (nq_m (n := 22) rfl) (sub_c (nq_m (n := 23) rfl) (sub_c (nq_m (n := 9) rfl) sub_n)))) (by decide +kernel)) ggX11_hall_X11_takeClause
set_option maxRecDepth 100000 in
theorem ggX11_hall_X11_keepHall : GoodIn wsX11_hall wsX11_keepHall := goodIn_sub (sub_c (nq_m (n := 83) rfl) (sub_c (nq_m (n := 11) rfl) (sub_c (nq_m (n := 5) rfl) (sub_c (nq_m (n := 84) rfl) (sub_c (nq_m (n := 60) rfl) (sub_c (nq_m (n := 85) rfl) (sub_c (nq_m (n := 61) rfl) (sub_c (nq_m (n := 86) rfl) (sub_c (nq_m (n := 14) rfl) (sub_c (nq_m (n := 87) rfl) (sub_c (nq_m (n := 15) rfl) (sub_c (nq_m (n := 88) rfl) (sub_c (nq_m (n := 89) rfl) (sub_c (nq_m (n := 90) rfl) (sub_c (nq_m (n := 91) rfl) (sub_c (nq_m (n := 92) rfl) (sub_c (nq_m (n := 93) rfl) (sub_c (nq_m (n := 94) rfl) (sub_c (nq_m (n := 95) rfl) (sub_c (nq_m (n := 96) rfl) (sub_c (nq_m (n := 97) rfl) (sub_c (nq_m (n := 98) rfl) (sub_c (nq_m (n := 99) rfl) (sub_c (nq_m (n := 100) rfl) (sub_c (nq_m (n := 101) rfl) (sub_c (nq_m (n := 102) rfl) (sub_c (nq_m (n := 103) rfl) (sub_c (nq_m (n := 104) rfl) (sub_c (nq_m (n := 105) rfl) (sub_c (nq_m (n := 106) rfl) (sub_c (nq_m (n := 107) rfl) (sub_c (nq_m (n := 108) rfl) (sub_c (nq_m (n := 109) rfl) (sub_c (nq_m (n := 110) rfl) (sub_c (nq_m (n := 111) rfl) (sub_c (nq_m (n := 112) rfl) (sub_c (nq_m (n := 113) rfl) (sub_c (nq_m (n := 114) rfl) (sub_c (nq_m (n := 115) rfl) (sub_c (nq_m (n := 116) rfl) (sub_c (nq_m (n := 117) rfl) (sub_c (nq_m (n := 118) rfl) (sub_c (nq_m (n := 119) rfl) (sub_c (nq_m (n := 120) rfl) (sub_c (nq_m (n := 121) rfl) (sub_c (nq_m (n := 122) rfl) (sub_c (nq_m (n := 123) rfl) (sub_c (nq_m (n := 124) rfl) (sub_c (nq_m (n := 125) rfl) (sub_c (nq_m (n := 126) rfl) (sub_c (nq_m (n := 127) rfl) (sub_c (nq_m (n := 128) rfl) (sub_c (nq_m (n := 129) rfl) (sub_c (nq_m (n := 130) rfl) (sub_c (nq_m (n := 131) rfl) (sub_c (nq_m (n := 132) rfl) (sub_c (nq_m (n := 133) rfl) (sub_c (nq_m (n := 134) rfl) (sub_c (nq_m (n := 135) rfl) (sub_c (nq_m (n := 136) rfl) (sub_c (nq_m (n := 137) rfl) (sub_c (nq_m (n := 138) rfl) (sub_c (nq_m (n := 139) rfl) (sub_c (nq_m (n := 140) rfl) (sub_c (nq_m (n := 141) rfl) (sub_c (nq_m (n := 142) rfl) (sub_c (nq_m (n := 143) rfl) (sub_c (nq_m (n := 144) rfl) (sub_c (nq_m (n := 145) rfl) (sub_c (nq_m (n := 146) rfl) sub_n)))))))))))))))))))))))))))))))))))))))))))))))))))))))))))))))))))))) (by decide +kernel)
set_option maxRecDepth 100000 in
theorem gX11_hall_X11_keepHall : GoodIn wsX11_hall (wsV RX11 121 RX11 yX11_keepHall wsX11_keepHall) := goodIn_app (goodIn_sub (sub_c (nq_m (n := 80) rfl) (sub_c (nq_m (n := 81) rfl) (sub_c (nq_m (n := 82) rfl) (sub_c (nq_m (n := 9) rfl) sub_n)))) (by decide +kernel)) ggX11_hall_X11_keepHall
noncomputable def dX11_hall_0_l : List (Nat × Instr × Nat) := [(0, .aload_n 0, 1), (1, .getfield 215, 3), (4, .ifCond .le 7, 3), (7, .sipush (-1003), 3), (10, .ireturn, 1), (11, .aload_n 0, 1), (12, .iconst (-1), 1), (13, .putfield 25, 3), (16, .aload_n 0, 1), (17, .iconst 0, 1), (18, .putfield 135, 3), (21, .aload_n 0, 1), (22, .invokevirtual 118, 3), (25, .iconst 0, 1), (26, .istore_n 1, 1), (27, .iload_n 1, 1), (28, .ifCond .ne 18, 3), (31, .aload_n 0, 1), (32, .invokevirtual 138, 3), (35, .ifCond .lt 11, 3), (38, .aload_n 0, 1), (39, .invokevirtual 218, 3), (42, .istore_n 1, 1), (43, .goto (-16), 3), (46, .aload_n 0, 1), (47, .iconst 0, 1), (48, .putfield 130, 3), (51, .iload_n 1, 1), (52, .ifCond .le 8, 3), (55, .bipush (-10), 2), (57, .iload_n 1, 1), (58, .isub, 1), (59, .ireturn, 1), (60, .aload_n 0, 1), (61, .invokevirtual 121, 3), (64, .aload_n 0, 1), (65, .getfield 221, 3), (68, .ireturn, 1)]
set_option maxRecDepth 100000 in
theorem dX11_hall_0_g : dX11_hall_0_l.all (fun x => decide (decode cX11_hall x.1 = .ok x.2)) = true := by decide +kernel
theorem dX11_hall_0 : decode cX11_hall 0 = .ok (.aload_n 0, 1) := nq_d dX11_hall_0_g (n := 0) rfl
theorem dX11_hall_1 : decode cX11_hall 1 = .ok (.getfield 215, 3) := nq_d dX11_hall_0_g (n := 1) rfl
theorem dX11_hall_4 : decode cX11_hall 4 = .ok (.ifCond .le 7, 3) := nq_d dX11_hall_0_g (n := 2) rfl
theorem dX11_hall_7 : decode cX11_hall 7 = .ok (.sipush (-1003), 3) := nq_d dX11_hall_0_g (n := 3) rfl
theorem dX11_hall_10 : decode cX11_hall 10 = .ok (.ireturn, 1) := nq_d dX11_hall_0_g (n := 4) rfl
theorem dX11_hall_11 : decode cX11_hall 11 = .ok (.aload_n 0, 1) := nq_d dX11_hall_0_g (n := 5) rfl
theorem dX11_hall_12 : decode cX11_hall 12 = .ok (.iconst (-1), 1) := nq_d dX11_hall_0_g (n := 6) rfl
theorem dX11_hall_13 : decode cX11_hall 13 = .ok (.putfield 25, 3) := nq_d dX11_hall_0_g (n := 7) rfl
theorem dX11_hall_16 : decode cX11_hall 16 = .ok (.aload_n 0, 1) := nq_d dX11_hall_0_g (n := 8) rfl
theorem dX11_hall_17 : decode cX11_hall 17 = .ok (.iconst 0, 1) := nq_d dX11_hall_0_g (n := 9) rfl
theorem dX11_hall_18 : decode cX11_hall 18 = .ok (.putfield 135, 3) := nq_d dX11_hall_0_g (n := 10) rfl
theorem dX11_hall_21 : decode cX11_hall 21 = .ok (.aload_n 0, 1) := nq_d dX11_hall_0_g (n := 11) rfl
theorem dX11_hall_22 : decode cX11_hall 22 = .ok (.invokevirtual 118, 3) := nq_d dX11_hall_0_g (n := 12) rfl
theorem dX11_hall_25 : decode cX11_hall 25 = .ok (.iconst 0, 1) := nq_d dX11_hall_0_g (n := 13) rfl
theorem dX11_hall_26 : decode cX11_hall 26 = .ok (.istore_n 1, 1) := nq_d dX11_hall_0_g (n := 14) rfl
theorem dX11_hall_27 : decode cX11_hall 27 = .ok (.iload_n 1, 1) := nq_d dX11_hall_0_g (n := 15) rfl
theorem dX11_hall_28 : decode cX11_hall 28 = .ok (.ifCond .ne 18, 3) := nq_d dX11_hall_0_g (n := 16) rfl
theorem dX11_hall_31 : decode cX11_hall 31 = .ok (.aload_n 0, 1) := nq_d dX11_hall_0_g (n := 17) rfl
theorem dX11_hall_32 : decode cX11_hall 32 = .ok (.invokevirtual 138, 3) := nq_d dX11_hall_0_g (n := 18) rfl
theorem dX11_hall_35 : decode cX11_hall 35 = .ok (.ifCond .lt 11, 3) := nq_d dX11_hall_0_g (n := 19) rfl
theorem dX11_hall_38 : decode cX11_hall 38 = .ok (.aload_n 0, 1) := nq_d dX11_hall_0_g (n := 20) rfl
theorem dX11_hall_39 : decode cX11_hall 39 = .ok (.invokevirtual 218, 3) := nq_d dX11_hall_0_g (n := 21) rfl
theorem dX11_hall_42 : decode cX11_hall 42 = .ok (.istore_n 1, 1) := nq_d dX11_hall_0_g (n := 22) rfl
theorem dX11_hall_43 : decode cX11_hall 43 = .ok (.goto (-16), 3) := nq_d dX11_hall_0_g (n := 23) rfl
theorem dX11_hall_46 : decode cX11_hall 46 = .ok (.aload_n 0, 1) := nq_d dX11_hall_0_g (n := 24) rfl
theorem dX11_hall_47 : decode cX11_hall 47 = .ok (.iconst 0, 1) := nq_d dX11_hall_0_g (n := 25) rfl
theorem dX11_hall_48 : decode cX11_hall 48 = .ok (.putfield 130, 3) := nq_d dX11_hall_0_g (n := 26) rfl
theorem dX11_hall_51 : decode cX11_hall 51 = .ok (.iload_n 1, 1) := nq_d dX11_hall_0_g (n := 27) rfl
theorem dX11_hall_52 : decode cX11_hall 52 = .ok (.ifCond .le 8, 3) := nq_d dX11_hall_0_g (n := 28) rfl
theorem dX11_hall_55 : decode cX11_hall 55 = .ok (.bipush (-10), 2) := nq_d dX11_hall_0_g (n := 29) rfl
theorem dX11_hall_57 : decode cX11_hall 57 = .ok (.iload_n 1, 1) := nq_d dX11_hall_0_g (n := 30) rfl
theorem dX11_hall_58 : decode cX11_hall 58 = .ok (.isub, 1) := nq_d dX11_hall_0_g (n := 31) rfl
theorem dX11_hall_59 : decode cX11_hall 59 = .ok (.ireturn, 1) := nq_d dX11_hall_0_g (n := 32) rfl
theorem dX11_hall_60 : decode cX11_hall 60 = .ok (.aload_n 0, 1) := nq_d dX11_hall_0_g (n := 33) rfl
theorem dX11_hall_61 : decode cX11_hall 61 = .ok (.invokevirtual 121, 3) := nq_d dX11_hall_0_g (n := 34) rfl
theorem dX11_hall_64 : decode cX11_hall 64 = .ok (.aload_n 0, 1) := nq_d dX11_hall_0_g (n := 35) rfl
theorem dX11_hall_65 : decode cX11_hall 65 = .ok (.getfield 221, 3) := nq_d dX11_hall_0_g (n := 36) rfl
theorem dX11_hall_68 : decode cX11_hall 68 = .ok (.ireturn, 1) := nq_d dX11_hall_0_g (n := 37) rfl
noncomputable def dX11_keepHall_0_l : List (Nat × Instr × Nat) := [(0, .aload_n 0, 1), (1, .aload_n 0, 1), (2, .getfield 186, 3), (5, .putfield 221, 3), (8, .iconst 0, 1), (9, .istore_n 1, 1), (10, .iload_n 1, 1), (11, .bipush 24, 2), (13, .if_icmp .ge 33, 3), (16, .aload_n 0, 1), (17, .getfield 7, 3), (20, .iload_n 1, 1), (21, .aload_n 0, 1), (22, .getfield 29, 3), (25, .iload_n 1, 1), (26, .iaload, 1), (27, .iastore, 1), (28, .aload_n 0, 1), (29, .getfield 13, 3), (32, .iload_n 1, 1), (33, .aload_n 0, 1), (34, .getfield 32, 3), (37, .iload_n 1, 1), (38, .iaload, 1), (39, .iastore, 1), (40, .iinc 1 1, 3), (43, .goto (-33), 3), (46, .iconst 0, 1), (47, .istore_n 1, 1), (48, .iload_n 1, 1), (49, .bipush 12, 2), (51, .if_icmp .ge 21, 3), (54, .aload_n 0, 1), (55, .getfield 16, 3), (58, .iload_n 1, 1), (59, .aload_n 0, 1), (60, .getfield 35, 3), (63, .iload_n 1, 1), (64, .iaload, 1), (65, .iastore, 1)]
set_option maxRecDepth 100000 in
theorem dX11_keepHall_0_g : dX11_keepHall_0_l.all (fun x => decide (decode cX11_keepHall x.1 = .ok x.2)) = true := by decide +kernel
theorem dX11_keepHall_0 : decode cX11_keepHall 0 = .ok (.aload_n 0, 1) := nq_d dX11_keepHall_0_g (n := 0) rfl
theorem dX11_keepHall_1 : decode cX11_keepHall 1 = .ok (.aload_n 0, 1) := nq_d dX11_keepHall_0_g (n := 1) rfl
theorem dX11_keepHall_2 : decode cX11_keepHall 2 = .ok (.getfield 186, 3) := nq_d dX11_keepHall_0_g (n := 2) rfl
theorem dX11_keepHall_5 : decode cX11_keepHall 5 = .ok (.putfield 221, 3) := nq_d dX11_keepHall_0_g (n := 3) rfl
theorem dX11_keepHall_8 : decode cX11_keepHall 8 = .ok (.iconst 0, 1) := nq_d dX11_keepHall_0_g (n := 4) rfl
theorem dX11_keepHall_9 : decode cX11_keepHall 9 = .ok (.istore_n 1, 1) := nq_d dX11_keepHall_0_g (n := 5) rfl
theorem dX11_keepHall_10 : decode cX11_keepHall 10 = .ok (.iload_n 1, 1) := nq_d dX11_keepHall_0_g (n := 6) rfl
theorem dX11_keepHall_11 : decode cX11_keepHall 11 = .ok (.bipush 24, 2) := nq_d dX11_keepHall_0_g (n := 7) rfl
theorem dX11_keepHall_13 : decode cX11_keepHall 13 = .ok (.if_icmp .ge 33, 3) := nq_d dX11_keepHall_0_g (n := 8) rfl
theorem dX11_keepHall_16 : decode cX11_keepHall 16 = .ok (.aload_n 0, 1) := nq_d dX11_keepHall_0_g (n := 9) rfl
theorem dX11_keepHall_17 : decode cX11_keepHall 17 = .ok (.getfield 7, 3) := nq_d dX11_keepHall_0_g (n := 10) rfl
theorem dX11_keepHall_20 : decode cX11_keepHall 20 = .ok (.iload_n 1, 1) := nq_d dX11_keepHall_0_g (n := 11) rfl
theorem dX11_keepHall_21 : decode cX11_keepHall 21 = .ok (.aload_n 0, 1) := nq_d dX11_keepHall_0_g (n := 12) rfl
theorem dX11_keepHall_22 : decode cX11_keepHall 22 = .ok (.getfield 29, 3) := nq_d dX11_keepHall_0_g (n := 13) rfl
theorem dX11_keepHall_25 : decode cX11_keepHall 25 = .ok (.iload_n 1, 1) := nq_d dX11_keepHall_0_g (n := 14) rfl
theorem dX11_keepHall_26 : decode cX11_keepHall 26 = .ok (.iaload, 1) := nq_d dX11_keepHall_0_g (n := 15) rfl
theorem dX11_keepHall_27 : decode cX11_keepHall 27 = .ok (.iastore, 1) := nq_d dX11_keepHall_0_g (n := 16) rfl
theorem dX11_keepHall_28 : decode cX11_keepHall 28 = .ok (.aload_n 0, 1) := nq_d dX11_keepHall_0_g (n := 17) rfl
theorem dX11_keepHall_29 : decode cX11_keepHall 29 = .ok (.getfield 13, 3) := nq_d dX11_keepHall_0_g (n := 18) rfl
theorem dX11_keepHall_32 : decode cX11_keepHall 32 = .ok (.iload_n 1, 1) := nq_d dX11_keepHall_0_g (n := 19) rfl
theorem dX11_keepHall_33 : decode cX11_keepHall 33 = .ok (.aload_n 0, 1) := nq_d dX11_keepHall_0_g (n := 20) rfl
theorem dX11_keepHall_34 : decode cX11_keepHall 34 = .ok (.getfield 32, 3) := nq_d dX11_keepHall_0_g (n := 21) rfl
theorem dX11_keepHall_37 : decode cX11_keepHall 37 = .ok (.iload_n 1, 1) := nq_d dX11_keepHall_0_g (n := 22) rfl
theorem dX11_keepHall_38 : decode cX11_keepHall 38 = .ok (.iaload, 1) := nq_d dX11_keepHall_0_g (n := 23) rfl
theorem dX11_keepHall_39 : decode cX11_keepHall 39 = .ok (.iastore, 1) := nq_d dX11_keepHall_0_g (n := 24) rfl
theorem dX11_keepHall_40 : decode cX11_keepHall 40 = .ok (.iinc 1 1, 3) := nq_d dX11_keepHall_0_g (n := 25) rfl
theorem dX11_keepHall_43 : decode cX11_keepHall 43 = .ok (.goto (-33), 3) := nq_d dX11_keepHall_0_g (n := 26) rfl
theorem dX11_keepHall_46 : decode cX11_keepHall 46 = .ok (.iconst 0, 1) := nq_d dX11_keepHall_0_g (n := 27) rfl
theorem dX11_keepHall_47 : decode cX11_keepHall 47 = .ok (.istore_n 1, 1) := nq_d dX11_keepHall_0_g (n := 28) rfl
theorem dX11_keepHall_48 : decode cX11_keepHall 48 = .ok (.iload_n 1, 1) := nq_d dX11_keepHall_0_g (n := 29) rfl
theorem dX11_keepHall_49 : decode cX11_keepHall 49 = .ok (.bipush 12, 2) := nq_d dX11_keepHall_0_g (n := 30) rfl
theorem dX11_keepHall_51 : decode cX11_keepHall 51 = .ok (.if_icmp .ge 21, 3) := nq_d dX11_keepHall_0_g (n := 31) rfl
theorem dX11_keepHall_54 : decode cX11_keepHall 54 = .ok (.aload_n 0, 1) := nq_d dX11_keepHall_0_g (n := 32) rfl
theorem dX11_keepHall_55 : decode cX11_keepHall 55 = .ok (.getfield 16, 3) := nq_d dX11_keepHall_0_g (n := 33) rfl
theorem dX11_keepHall_58 : decode cX11_keepHall 58 = .ok (.iload_n 1, 1) := nq_d dX11_keepHall_0_g (n := 34) rfl
theorem dX11_keepHall_59 : decode cX11_keepHall 59 = .ok (.aload_n 0, 1) := nq_d dX11_keepHall_0_g (n := 35) rfl
theorem dX11_keepHall_60 : decode cX11_keepHall 60 = .ok (.getfield 35, 3) := nq_d dX11_keepHall_0_g (n := 36) rfl
theorem dX11_keepHall_63 : decode cX11_keepHall 63 = .ok (.iload_n 1, 1) := nq_d dX11_keepHall_0_g (n := 37) rfl
theorem dX11_keepHall_64 : decode cX11_keepHall 64 = .ok (.iaload, 1) := nq_d dX11_keepHall_0_g (n := 38) rfl
theorem dX11_keepHall_65 : decode cX11_keepHall 65 = .ok (.iastore, 1) := nq_d dX11_keepHall_0_g (n := 39) rfl
noncomputable def dX11_keepHall_66_l : List (Nat × Instr × Nat) := [(66, .iinc 1 1, 3), (69, .goto (-21), 3), (72, .iconst 0, 1), (73, .istore_n 1, 1), (74, .iload_n 1, 1), (75, .iconst 5, 1), (76, .if_icmp .ge 21, 3), (79, .aload_n 0, 1), (80, .getfield 19, 3), (83, .iload_n 1, 1), (84, .aload_n 0, 1), (85, .getfield 38, 3), (88, .iload_n 1, 1), (89, .iaload, 1), (90, .iastore, 1), (91, .iinc 1 1, 3), (94, .goto (-20), 3), (97, .aload_n 0, 1), (98, .dup, 1), (99, .getfield 224, 3), (102, .iconst 1, 1), (103, .iadd, 1), (104, .putfield 224, 3), (107, .return_, 1)]
set_option maxRecDepth 100000 in
theorem dX11_keepHall_66_g : dX11_keepHall_66_l.all (fun x => decide (decode cX11_keepHall x.1 = .ok x.2)) = true := by decide +kernel
theorem dX11_keepHall_66 : decode cX11_keepHall 66 = .ok (.iinc 1 1, 3) := nq_d dX11_keepHall_66_g (n := 0) rfl
theorem dX11_keepHall_69 : decode cX11_keepHall 69 = .ok (.goto (-21), 3) := nq_d dX11_keepHall_66_g (n := 1) rfl
theorem dX11_keepHall_72 : decode cX11_keepHall 72 = .ok (.iconst 0, 1) := nq_d dX11_keepHall_66_g (n := 2) rfl
theorem dX11_keepHall_73 : decode cX11_keepHall 73 = .ok (.istore_n 1, 1) := nq_d dX11_keepHall_66_g (n := 3) rfl
theorem dX11_keepHall_74 : decode cX11_keepHall 74 = .ok (.iload_n 1, 1) := nq_d dX11_keepHall_66_g (n := 4) rfl
theorem dX11_keepHall_75 : decode cX11_keepHall 75 = .ok (.iconst 5, 1) := nq_d dX11_keepHall_66_g (n := 5) rfl
theorem dX11_keepHall_76 : decode cX11_keepHall 76 = .ok (.if_icmp .ge 21, 3) := nq_d dX11_keepHall_66_g (n := 6) rfl
theorem dX11_keepHall_79 : decode cX11_keepHall 79 = .ok (.aload_n 0, 1) := nq_d dX11_keepHall_66_g (n := 7) rfl
theorem dX11_keepHall_80 : decode cX11_keepHall 80 = .ok (.getfield 19, 3) := nq_d dX11_keepHall_66_g (n := 8) rfl
theorem dX11_keepHall_83 : decode cX11_keepHall 83 = .ok (.iload_n 1, 1) := nq_d dX11_keepHall_66_g (n := 9) rfl
theorem dX11_keepHall_84 : decode cX11_keepHall 84 = .ok (.aload_n 0, 1) := nq_d dX11_keepHall_66_g (n := 10) rfl
theorem dX11_keepHall_85 : decode cX11_keepHall 85 = .ok (.getfield 38, 3) := nq_d dX11_keepHall_66_g (n := 11) rfl
theorem dX11_keepHall_88 : decode cX11_keepHall 88 = .ok (.iload_n 1, 1) := nq_d dX11_keepHall_66_g (n := 12) rfl
theorem dX11_keepHall_89 : decode cX11_keepHall 89 = .ok (.iaload, 1) := nq_d dX11_keepHall_66_g (n := 13) rfl
theorem dX11_keepHall_90 : decode cX11_keepHall 90 = .ok (.iastore, 1) := nq_d dX11_keepHall_66_g (n := 14) rfl
theorem dX11_keepHall_91 : decode cX11_keepHall 91 = .ok (.iinc 1 1, 3) := nq_d dX11_keepHall_66_g (n := 15) rfl
theorem dX11_keepHall_94 : decode cX11_keepHall 94 = .ok (.goto (-20), 3) := nq_d dX11_keepHall_66_g (n := 16) rfl
theorem dX11_keepHall_97 : decode cX11_keepHall 97 = .ok (.aload_n 0, 1) := nq_d dX11_keepHall_66_g (n := 17) rfl
theorem dX11_keepHall_98 : decode cX11_keepHall 98 = .ok (.dup, 1) := nq_d dX11_keepHall_66_g (n := 18) rfl
theorem dX11_keepHall_99 : decode cX11_keepHall 99 = .ok (.getfield 224, 3) := nq_d dX11_keepHall_66_g (n := 19) rfl
theorem dX11_keepHall_102 : decode cX11_keepHall 102 = .ok (.iconst 1, 1) := nq_d dX11_keepHall_66_g (n := 20) rfl
theorem dX11_keepHall_103 : decode cX11_keepHall 103 = .ok (.iadd, 1) := nq_d dX11_keepHall_66_g (n := 21) rfl
theorem dX11_keepHall_104 : decode cX11_keepHall 104 = .ok (.putfield 224, 3) := nq_d dX11_keepHall_66_g (n := 22) rfl
theorem dX11_keepHall_107 : decode cX11_keepHall 107 = .ok (.return_, 1) := nq_d dX11_keepHall_66_g (n := 23) rfl
noncomputable def dX11_fault_0_l : List (Nat × Instr × Nat) := [(0, .aload_n 0, 1), (1, .getfield 25, 3), (4, .ireturn, 1)]
set_option maxRecDepth 100000 in
theorem dX11_fault_0_g : dX11_fault_0_l.all (fun x => decide (decode cX11_fault x.1 = .ok x.2)) = true := by decide +kernel
theorem dX11_fault_0 : decode cX11_fault 0 = .ok (.aload_n 0, 1) := nq_d dX11_fault_0_g (n := 0) rfl
theorem dX11_fault_1 : decode cX11_fault 1 = .ok (.getfield 25, 3) := nq_d dX11_fault_0_g (n := 1) rfl
theorem dX11_fault_4 : decode cX11_fault 4 = .ok (.ireturn, 1) := nq_d dX11_fault_0_g (n := 2) rfl
set_option maxRecDepth 100000 in
theorem ggX11_isPeg_X11_in : GoodIn wsX11_isPeg wsX11_in := goodIn_sub (sub_c (nq_m (n := 5) rfl) sub_n) (by decide +kernel)
set_option maxRecDepth 100000 in
theorem gX11_isPeg_X11_in : GoodIn wsX11_isPeg (va_wsS RX11 126 yX11_in wsX11_in) := goodIn_app (goodIn_sub (sub_c (nq_m (n := 2) rfl) (sub_c (nq_m (n := 3) rfl) (sub_c (nq_m (n := 4) rfl) sub_n))) (by decide +kernel)) ggX11_isPeg_X11_in
noncomputable def dX11_isPeg_0_l : List (Nat × Instr × Nat) := [(0, .iload_n 1, 1), (1, .i2l, 1), (2, .lconst 0, 1), (3, .aload_n 0, 1), (4, .getfield 221, 3), (7, .iconst 1, 1), (8, .isub, 1), (9, .i2l, 1), (10, .invokestatic 126, 3), (13, .ireturn, 1)]
set_option maxRecDepth 100000 in
theorem dX11_isPeg_0_g : dX11_isPeg_0_l.all (fun x => decide (decode cX11_isPeg x.1 = .ok x.2)) = true := by decide +kernel
theorem dX11_isPeg_0 : decode cX11_isPeg 0 = .ok (.iload_n 1, 1) := nq_d dX11_isPeg_0_g (n := 0) rfl
theorem dX11_isPeg_1 : decode cX11_isPeg 1 = .ok (.i2l, 1) := nq_d dX11_isPeg_0_g (n := 1) rfl
theorem dX11_isPeg_2 : decode cX11_isPeg 2 = .ok (.lconst 0, 1) := nq_d dX11_isPeg_0_g (n := 2) rfl
theorem dX11_isPeg_3 : decode cX11_isPeg 3 = .ok (.aload_n 0, 1) := nq_d dX11_isPeg_0_g (n := 3) rfl
theorem dX11_isPeg_4 : decode cX11_isPeg 4 = .ok (.getfield 221, 3) := nq_d dX11_isPeg_0_g (n := 4) rfl
theorem dX11_isPeg_7 : decode cX11_isPeg 7 = .ok (.iconst 1, 1) := nq_d dX11_isPeg_0_g (n := 5) rfl
theorem dX11_isPeg_8 : decode cX11_isPeg 8 = .ok (.isub, 1) := nq_d dX11_isPeg_0_g (n := 6) rfl
theorem dX11_isPeg_9 : decode cX11_isPeg 9 = .ok (.i2l, 1) := nq_d dX11_isPeg_0_g (n := 7) rfl
theorem dX11_isPeg_10 : decode cX11_isPeg 10 = .ok (.invokestatic 126, 3) := nq_d dX11_isPeg_0_g (n := 8) rfl
theorem dX11_isPeg_13 : decode cX11_isPeg 13 = .ok (.ireturn, 1) := nq_d dX11_isPeg_0_g (n := 9) rfl
set_option maxRecDepth 100000 in
theorem ggX11_isGuest_X11_in : GoodIn wsX11_isGuest wsX11_in := goodIn_sub (sub_c (nq_m (n := 5) rfl) sub_n) (by decide +kernel)
set_option maxRecDepth 100000 in
theorem gX11_isGuest_X11_in : GoodIn wsX11_isGuest (va_wsS RX11 126 yX11_in wsX11_in) := goodIn_app (goodIn_sub (sub_c (nq_m (n := 2) rfl) (sub_c (nq_m (n := 3) rfl) (sub_c (nq_m (n := 4) rfl) sub_n))) (by decide +kernel)) ggX11_isGuest_X11_in
noncomputable def dX11_isGuest_0_l : List (Nat × Instr × Nat) := [(0, .iload_n 1, 1), (1, .i2l, 1), (2, .lconst 0, 1), (3, .aload_n 0, 1), (4, .getfield 227, 3), (7, .iconst 1, 1), (8, .isub, 1), (9, .i2l, 1), (10, .invokestatic 126, 3), (13, .ireturn, 1)]
set_option maxRecDepth 100000 in
theorem dX11_isGuest_0_g : dX11_isGuest_0_l.all (fun x => decide (decode cX11_isGuest x.1 = .ok x.2)) = true := by decide +kernel
theorem dX11_isGuest_0 : decode cX11_isGuest 0 = .ok (.iload_n 1, 1) := nq_d dX11_isGuest_0_g (n := 0) rfl
theorem dX11_isGuest_1 : decode cX11_isGuest 1 = .ok (.i2l, 1) := nq_d dX11_isGuest_0_g (n := 1) rfl
theorem dX11_isGuest_2 : decode cX11_isGuest 2 = .ok (.lconst 0, 1) := nq_d dX11_isGuest_0_g (n := 2) rfl
theorem dX11_isGuest_3 : decode cX11_isGuest 3 = .ok (.aload_n 0, 1) := nq_d dX11_isGuest_0_g (n := 3) rfl
theorem dX11_isGuest_4 : decode cX11_isGuest 4 = .ok (.getfield 227, 3) := nq_d dX11_isGuest_0_g (n := 4) rfl
theorem dX11_isGuest_7 : decode cX11_isGuest 7 = .ok (.iconst 1, 1) := nq_d dX11_isGuest_0_g (n := 5) rfl
theorem dX11_isGuest_8 : decode cX11_isGuest 8 = .ok (.isub, 1) := nq_d dX11_isGuest_0_g (n := 6) rfl
theorem dX11_isGuest_9 : decode cX11_isGuest 9 = .ok (.i2l, 1) := nq_d dX11_isGuest_0_g (n := 7) rfl
theorem dX11_isGuest_10 : decode cX11_isGuest 10 = .ok (.invokestatic 126, 3) := nq_d dX11_isGuest_0_g (n := 8) rfl
theorem dX11_isGuest_13 : decode cX11_isGuest 13 = .ok (.ireturn, 1) := nq_d dX11_isGuest_0_g (n := 9) rfl
set_option maxRecDepth 100000 in
theorem ggX11_areGuests_X11_in : GoodIn wsX11_areGuests wsX11_in := goodIn_sub (sub_c (nq_m (n := 5) rfl) sub_n) (by decide +kernel)
set_option maxRecDepth 100000 in
theorem gX11_areGuests_X11_in : GoodIn wsX11_areGuests (va_wsS RX11 126 yX11_in wsX11_in) := goodIn_app (goodIn_sub (sub_c (nq_m (n := 2) rfl) (sub_c (nq_m (n := 3) rfl) (sub_c (nq_m (n := 4) rfl) sub_n))) (by decide +kernel)) ggX11_areGuests_X11_in
noncomputable def dX11_areGuests_0_l : List (Nat × Instr × Nat) := [(0, .iload_n 1, 1), (1, .i2l, 1), (2, .lconst 0, 1), (3, .iconst 1, 1), (4, .aload_n 0, 1), (5, .getfield 227, 3), (8, .ishl, 1), (9, .iconst 1, 1), (10, .isub, 1), (11, .i2l, 1), (12, .invokestatic 126, 3), (15, .ireturn, 1)]
set_option maxRecDepth 100000 in
theorem dX11_areGuests_0_g : dX11_areGuests_0_l.all (fun x => decide (decode cX11_areGuests x.1 = .ok x.2)) = true := by decide +kernel
theorem dX11_areGuests_0 : decode cX11_areGuests 0 = .ok (.iload_n 1, 1) := nq_d dX11_areGuests_0_g (n := 0) rfl
theorem dX11_areGuests_1 : decode cX11_areGuests 1 = .ok (.i2l, 1) := nq_d dX11_areGuests_0_g (n := 1) rfl
theorem dX11_areGuests_2 : decode cX11_areGuests 2 = .ok (.lconst 0, 1) := nq_d dX11_areGuests_0_g (n := 2) rfl
theorem dX11_areGuests_3 : decode cX11_areGuests 3 = .ok (.iconst 1, 1) := nq_d dX11_areGuests_0_g (n := 3) rfl
theorem dX11_areGuests_4 : decode cX11_areGuests 4 = .ok (.aload_n 0, 1) := nq_d dX11_areGuests_0_g (n := 4) rfl
theorem dX11_areGuests_5 : decode cX11_areGuests 5 = .ok (.getfield 227, 3) := nq_d dX11_areGuests_0_g (n := 5) rfl
theorem dX11_areGuests_8 : decode cX11_areGuests 8 = .ok (.ishl, 1) := nq_d dX11_areGuests_0_g (n := 6) rfl
theorem dX11_areGuests_9 : decode cX11_areGuests 9 = .ok (.iconst 1, 1) := nq_d dX11_areGuests_0_g (n := 7) rfl
theorem dX11_areGuests_10 : decode cX11_areGuests 10 = .ok (.isub, 1) := nq_d dX11_areGuests_0_g (n := 8) rfl
theorem dX11_areGuests_11 : decode cX11_areGuests 11 = .ok (.i2l, 1) := nq_d dX11_areGuests_0_g (n := 9) rfl
theorem dX11_areGuests_12 : decode cX11_areGuests 12 = .ok (.invokestatic 126, 3) := nq_d dX11_areGuests_0_g (n := 10) rfl
theorem dX11_areGuests_15 : decode cX11_areGuests 15 = .ok (.ireturn, 1) := nq_d dX11_areGuests_0_g (n := 11) rfl
set_option maxRecDepth 100000 in
theorem ggX11_peg_X11_isPeg : GoodIn wsX11_peg wsX11_isPeg := goodIn_sub (sub_c (nq_m (n := 8) rfl) (sub_c (nq_m (n := 9) rfl) (sub_c (nq_m (n := 10) rfl) (sub_c (nq_m (n := 11) rfl) (sub_c (nq_m (n := 7) rfl) (sub_c (nq_m (n := 12) rfl) (sub_c (nq_m (n := 13) rfl) (sub_c (nq_m (n := 14) rfl) (sub_c (nq_m (n := 15) rfl) (sub_c (nq_m (n := 16) rfl) (sub_c (nq_m (n := 17) rfl) (sub_c (nq_m (n := 18) rfl) (sub_c (nq_m (n := 19) rfl) (sub_c (nq_m (n := 20) rfl) (sub_c (nq_m (n := 21) rfl) (sub_c (nq_m (n := 22) rfl) (sub_c (nq_m (n := 23) rfl) (sub_c (nq_m (n := 24) rfl) (sub_c (nq_m (n := 25) rfl) (sub_c (nq_m (n := 26) rfl) (sub_c (nq_m (n := 27) rfl) (sub_c (nq_m (n := 28) rfl) (sub_c (nq_m (n := 29) rfl) (sub_c (nq_m (n := 30) rfl) (sub_c (nq_m (n := 31) rfl) (sub_c (nq_m (n := 32) rfl) (sub_c (nq_m (n := 33) rfl) (sub_c (nq_m (n := 34) rfl) (sub_c (nq_m (n := 35) rfl) (sub_c (nq_m (n := 36) rfl) (sub_c (nq_m (n := 37) rfl) (sub_c (nq_m (n := 38) rfl) (sub_c (nq_m (n := 39) rfl) (sub_c (nq_m (n := 40) rfl) (sub_c (nq_m (n := 41) rfl) (sub_c (nq_m (n := 42) rfl) (sub_c (nq_m (n := 43) rfl) (sub_c (nq_m (n := 44) rfl) (sub_c (nq_m (n := 45) rfl) (sub_c (nq_m (n := 46) rfl) (sub_c (nq_m (n := 47) rfl) (sub_c (nq_m (n := 48) rfl) (sub_c (nq_m (n := 49) rfl) (sub_c (nq_m (n := 50) rfl) (sub_c (nq_m (n := 51) rfl) (sub_c (nq_m (n := 52) rfl) (sub_c (nq_m (n := 53) rfl) (sub_c (nq_m (n := 54) rfl) (sub_c (nq_m (n := 55) rfl) (sub_c (nq_m (n := 56) rfl) (sub_c (nq_m (n := 57) rfl) (sub_c (nq_m (n := 58) rfl) (sub_c (nq_m (n := 59) rfl) (sub_c (nq_m (n := 60) rfl) (sub_c (nq_m (n := 61) rfl) (sub_c (nq_m (n := 62) rfl) (sub_c (nq_m (n := 63) rfl) (sub_c (nq_m (n := 64) rfl) (sub_c (nq_m (n := 65) rfl) (sub_c (nq_m (n := 66) rfl) (sub_c (nq_m (n := 67) rfl) (sub_c (nq_m (n := 68) rfl) (sub_c (nq_m (n := 69) rfl) (sub_c (nq_m (n := 70) rfl) sub_n)))))))))))))))))))))))))))))))))))))))))))))))))))))))))))))))) (by decide +kernel)
set_option maxRecDepth 100000 in
theorem gX11_peg_X11_isPeg : GoodIn wsX11_peg (wsV RX11 230 RX11 yX11_isPeg wsX11_isPeg) := goodIn_app (goodIn_sub (sub_c (nq_m (n := 4) rfl) (sub_c (nq_m (n := 5) rfl) (sub_c (nq_m (n := 6) rfl) (sub_c (nq_m (n := 7) rfl) sub_n)))) (by decide +kernel)) ggX11_peg_X11_isPeg
noncomputable def dX11_peg_0_l : List (Nat × Instr × Nat) := [(0, .aload_n 0, 1), (1, .iload_n 1, 1), (2, .invokevirtual 230, 3), (5, .ifCond .ne 7, 3), (8, .sipush (-1001), 3), (11, .ireturn, 1), (12, .iload_n 2, 1), (13, .ifCond .ne 12, 3), (16, .aload_n 0, 1), (17, .getfield 7, 3), (20, .iload_n 1, 1), (21, .iaload, 1), (22, .goto 34, 3), (25, .iload_n 2, 1), (26, .iconst 1, 1), (27, .if_icmp .ne 12, 3), (30, .aload_n 0, 1), (31, .getfield 13, 3), (34, .iload_n 1, 1), (35, .iaload, 1), (36, .goto 20, 3), (39, .iload_n 2, 1), (40, .iconst 2, 1), (41, .if_icmp .ne 12, 3), (44, .aload_n 0, 1), (45, .getfield 41, 3), (48, .iload_n 1, 1), (49, .iaload, 1), (50, .goto 6, 3), (53, .sipush (-1002), 3), (56, .ireturn, 1)]
set_option maxRecDepth 100000 in
theorem dX11_peg_0_g : dX11_peg_0_l.all (fun x => decide (decode cX11_peg x.1 = .ok x.2)) = true := by decide +kernel
theorem dX11_peg_0 : decode cX11_peg 0 = .ok (.aload_n 0, 1) := nq_d dX11_peg_0_g (n := 0) rfl
theorem dX11_peg_1 : decode cX11_peg 1 = .ok (.iload_n 1, 1) := nq_d dX11_peg_0_g (n := 1) rfl
theorem dX11_peg_2 : decode cX11_peg 2 = .ok (.invokevirtual 230, 3) := nq_d dX11_peg_0_g (n := 2) rfl
theorem dX11_peg_5 : decode cX11_peg 5 = .ok (.ifCond .ne 7, 3) := nq_d dX11_peg_0_g (n := 3) rfl
theorem dX11_peg_8 : decode cX11_peg 8 = .ok (.sipush (-1001), 3) := nq_d dX11_peg_0_g (n := 4) rfl
theorem dX11_peg_11 : decode cX11_peg 11 = .ok (.ireturn, 1) := nq_d dX11_peg_0_g (n := 5) rfl
theorem dX11_peg_12 : decode cX11_peg 12 = .ok (.iload_n 2, 1) := nq_d dX11_peg_0_g (n := 6) rfl
theorem dX11_peg_13 : decode cX11_peg 13 = .ok (.ifCond .ne 12, 3) := nq_d dX11_peg_0_g (n := 7) rfl
theorem dX11_peg_16 : decode cX11_peg 16 = .ok (.aload_n 0, 1) := nq_d dX11_peg_0_g (n := 8) rfl
theorem dX11_peg_17 : decode cX11_peg 17 = .ok (.getfield 7, 3) := nq_d dX11_peg_0_g (n := 9) rfl
theorem dX11_peg_20 : decode cX11_peg 20 = .ok (.iload_n 1, 1) := nq_d dX11_peg_0_g (n := 10) rfl
theorem dX11_peg_21 : decode cX11_peg 21 = .ok (.iaload, 1) := nq_d dX11_peg_0_g (n := 11) rfl
theorem dX11_peg_22 : decode cX11_peg 22 = .ok (.goto 34, 3) := nq_d dX11_peg_0_g (n := 12) rfl
theorem dX11_peg_25 : decode cX11_peg 25 = .ok (.iload_n 2, 1) := nq_d dX11_peg_0_g (n := 13) rfl
theorem dX11_peg_26 : decode cX11_peg 26 = .ok (.iconst 1, 1) := nq_d dX11_peg_0_g (n := 14) rfl
theorem dX11_peg_27 : decode cX11_peg 27 = .ok (.if_icmp .ne 12, 3) := nq_d dX11_peg_0_g (n := 15) rfl
theorem dX11_peg_30 : decode cX11_peg 30 = .ok (.aload_n 0, 1) := nq_d dX11_peg_0_g (n := 16) rfl
theorem dX11_peg_31 : decode cX11_peg 31 = .ok (.getfield 13, 3) := nq_d dX11_peg_0_g (n := 17) rfl
theorem dX11_peg_34 : decode cX11_peg 34 = .ok (.iload_n 1, 1) := nq_d dX11_peg_0_g (n := 18) rfl
theorem dX11_peg_35 : decode cX11_peg 35 = .ok (.iaload, 1) := nq_d dX11_peg_0_g (n := 19) rfl
theorem dX11_peg_36 : decode cX11_peg 36 = .ok (.goto 20, 3) := nq_d dX11_peg_0_g (n := 20) rfl
theorem dX11_peg_39 : decode cX11_peg 39 = .ok (.iload_n 2, 1) := nq_d dX11_peg_0_g (n := 21) rfl
theorem dX11_peg_40 : decode cX11_peg 40 = .ok (.iconst 2, 1) := nq_d dX11_peg_0_g (n := 22) rfl
theorem dX11_peg_41 : decode cX11_peg 41 = .ok (.if_icmp .ne 12, 3) := nq_d dX11_peg_0_g (n := 23) rfl
theorem dX11_peg_44 : decode cX11_peg 44 = .ok (.aload_n 0, 1) := nq_d dX11_peg_0_g (n := 24) rfl
theorem dX11_peg_45 : decode cX11_peg 45 = .ok (.getfield 41, 3) := nq_d dX11_peg_0_g (n := 25) rfl
theorem dX11_peg_48 : decode cX11_peg 48 = .ok (.iload_n 1, 1) := nq_d dX11_peg_0_g (n := 26) rfl
theorem dX11_peg_49 : decode cX11_peg 49 = .ok (.iaload, 1) := nq_d dX11_peg_0_g (n := 27) rfl
theorem dX11_peg_50 : decode cX11_peg 50 = .ok (.goto 6, 3) := nq_d dX11_peg_0_g (n := 28) rfl
theorem dX11_peg_53 : decode cX11_peg 53 = .ok (.sipush (-1002), 3) := nq_d dX11_peg_0_g (n := 29) rfl
theorem dX11_peg_56 : decode cX11_peg 56 = .ok (.ireturn, 1) := nq_d dX11_peg_0_g (n := 30) rfl
set_option maxRecDepth 100000 in
theorem ggX11_odds_X11_in : GoodIn wsX11_odds wsX11_in := goodIn_sub (sub_c (nq_m (n := 7) rfl) sub_n) (by decide +kernel)
set_option maxRecDepth 100000 in
theorem gX11_odds_X11_in : GoodIn wsX11_odds (va_wsS RX11 126 yX11_in wsX11_in) := goodIn_app (goodIn_sub (sub_c (nq_m (n := 4) rfl) (sub_c (nq_m (n := 5) rfl) (sub_c (nq_m (n := 6) rfl) sub_n))) (by decide +kernel)) ggX11_odds_X11_in
noncomputable def dX11_odds_0_l : List (Nat × Instr × Nat) := [(0, .iload_n 1, 1), (1, .i2l, 1), (2, .lconst 0, 1), (3, .ldc2_w 234, 3), (6, .invokestatic 126, 3), (9, .ifCond .eq 28, 3), (12, .iload_n 2, 1), (13, .i2l, 1), (14, .lconst 0, 1), (15, .ldc2_w 236, 3), (18, .invokestatic 126, 3), (21, .ifCond .eq 16, 3), (24, .aload_n 0, 1), (25, .getfield 16, 3), (28, .iconst 3, 1), (29, .iload_n 1, 1), (30, .imul, 1), (31, .iload_n 2, 1), (32, .iadd, 1), (33, .iaload, 1), (34, .goto 6, 3), (37, .sipush (-1002), 3), (40, .ireturn, 1)]
set_option maxRecDepth 100000 in
theorem dX11_odds_0_g : dX11_odds_0_l.all (fun x => decide (decode cX11_odds x.1 = .ok x.2)) = true := by decide +kernel
theorem dX11_odds_0 : decode cX11_odds 0 = .ok (.iload_n 1, 1) := nq_d dX11_odds_0_g (n := 0) rfl
theorem dX11_odds_1 : decode cX11_odds 1 = .ok (.i2l, 1) := nq_d dX11_odds_0_g (n := 1) rfl
theorem dX11_odds_2 : decode cX11_odds 2 = .ok (.lconst 0, 1) := nq_d dX11_odds_0_g (n := 2) rfl
theorem dX11_odds_3 : decode cX11_odds 3 = .ok (.ldc2_w 234, 3) := nq_d dX11_odds_0_g (n := 3) rfl
theorem dX11_odds_6 : decode cX11_odds 6 = .ok (.invokestatic 126, 3) := nq_d dX11_odds_0_g (n := 4) rfl
theorem dX11_odds_9 : decode cX11_odds 9 = .ok (.ifCond .eq 28, 3) := nq_d dX11_odds_0_g (n := 5) rfl
theorem dX11_odds_12 : decode cX11_odds 12 = .ok (.iload_n 2, 1) := nq_d dX11_odds_0_g (n := 6) rfl
theorem dX11_odds_13 : decode cX11_odds 13 = .ok (.i2l, 1) := nq_d dX11_odds_0_g (n := 7) rfl
theorem dX11_odds_14 : decode cX11_odds 14 = .ok (.lconst 0, 1) := nq_d dX11_odds_0_g (n := 8) rfl
theorem dX11_odds_15 : decode cX11_odds 15 = .ok (.ldc2_w 236, 3) := nq_d dX11_odds_0_g (n := 9) rfl
theorem dX11_odds_18 : decode cX11_odds 18 = .ok (.invokestatic 126, 3) := nq_d dX11_odds_0_g (n := 10) rfl
theorem dX11_odds_21 : decode cX11_odds 21 = .ok (.ifCond .eq 16, 3) := nq_d dX11_odds_0_g (n := 11) rfl
theorem dX11_odds_24 : decode cX11_odds 24 = .ok (.aload_n 0, 1) := nq_d dX11_odds_0_g (n := 12) rfl
theorem dX11_odds_25 : decode cX11_odds 25 = .ok (.getfield 16, 3) := nq_d dX11_odds_0_g (n := 13) rfl
theorem dX11_odds_28 : decode cX11_odds 28 = .ok (.iconst 3, 1) := nq_d dX11_odds_0_g (n := 14) rfl
theorem dX11_odds_29 : decode cX11_odds 29 = .ok (.iload_n 1, 1) := nq_d dX11_odds_0_g (n := 15) rfl
theorem dX11_odds_30 : decode cX11_odds 30 = .ok (.imul, 1) := nq_d dX11_odds_0_g (n := 16) rfl
theorem dX11_odds_31 : decode cX11_odds 31 = .ok (.iload_n 2, 1) := nq_d dX11_odds_0_g (n := 17) rfl
theorem dX11_odds_32 : decode cX11_odds 32 = .ok (.iadd, 1) := nq_d dX11_odds_0_g (n := 18) rfl
theorem dX11_odds_33 : decode cX11_odds 33 = .ok (.iaload, 1) := nq_d dX11_odds_0_g (n := 19) rfl
theorem dX11_odds_34 : decode cX11_odds 34 = .ok (.goto 6, 3) := nq_d dX11_odds_0_g (n := 20) rfl
theorem dX11_odds_37 : decode cX11_odds 37 = .ok (.sipush (-1002), 3) := nq_d dX11_odds_0_g (n := 21) rfl
theorem dX11_odds_40 : decode cX11_odds 40 = .ok (.ireturn, 1) := nq_d dX11_odds_0_g (n := 22) rfl
set_option maxRecDepth 100000 in
theorem ggX11_count_X11_in : GoodIn wsX11_count wsX11_in := goodIn_sub (sub_c (nq_m (n := 13) rfl) sub_n) (by decide +kernel)
set_option maxRecDepth 100000 in
theorem gX11_count_X11_in : GoodIn wsX11_count (va_wsS RX11 126 yX11_in wsX11_in) := goodIn_app (goodIn_sub (sub_c (nq_m (n := 10) rfl) (sub_c (nq_m (n := 11) rfl) (sub_c (nq_m (n := 12) rfl) sub_n))) (by decide +kernel)) ggX11_count_X11_in
noncomputable def dX11_count_0_l : List (Nat × Instr × Nat) := [(0, .iload_n 1, 1), (1, .tableswitch 91 0 7 #[47, 52, 57, 62, 67, 72, 77, 84], 47), (48, .aload_n 0, 1), (49, .getfield 221, 3), (52, .ireturn, 1), (53, .aload_n 0, 1), (54, .getfield 227, 3), (57, .ireturn, 1), (58, .aload_n 0, 1), (59, .getfield 215, 3), (62, .ireturn, 1), (63, .aload_n 0, 1), (64, .getfield 238, 3), (67, .ireturn, 1), (68, .aload_n 0, 1), (69, .getfield 241, 3), (72, .ireturn, 1), (73, .aload_n 0, 1), (74, .getfield 130, 3), (77, .ireturn, 1), (78, .aload_n 0, 1), (79, .getfield 19, 3), (82, .iconst 3, 1), (83, .iaload, 1), (84, .ireturn, 1), (85, .aload_n 0, 1), (86, .getfield 19, 3), (89, .iconst 4, 1), (90, .iaload, 1), (91, .ireturn, 1), (92, .iload_n 1, 1), (93, .i2l, 1), (94, .ldc2_w 124, 3), (97, .ldc2_w 244, 3), (100, .invokestatic 126, 3), (103, .ifCond .eq 15, 3), (106, .aload_n 0, 1), (107, .getfield 19, 3), (110, .iload_n 1, 1), (111, .bipush 8, 2)]
set_option maxRecDepth 100000 in
theorem dX11_count_0_g : dX11_count_0_l.all (fun x => decide (decode cX11_count x.1 = .ok x.2)) = true := by decide +kernel
theorem dX11_count_0 : decode cX11_count 0 = .ok (.iload_n 1, 1) := nq_d dX11_count_0_g (n := 0) rfl
theorem dX11_count_1 : decode cX11_count 1 = .ok (.tableswitch 91 0 7 #[47, 52, 57, 62, 67, 72, 77, 84], 47) := nq_d dX11_count_0_g (n := 1) rfl
theorem dX11_count_48 : decode cX11_count 48 = .ok (.aload_n 0, 1) := nq_d dX11_count_0_g (n := 2) rfl
theorem dX11_count_49 : decode cX11_count 49 = .ok (.getfield 221, 3) := nq_d dX11_count_0_g (n := 3) rfl
theorem dX11_count_52 : decode cX11_count 52 = .ok (.ireturn, 1) := nq_d dX11_count_0_g (n := 4) rfl
theorem dX11_count_53 : decode cX11_count 53 = .ok (.aload_n 0, 1) := nq_d dX11_count_0_g (n := 5) rfl
theorem dX11_count_54 : decode cX11_count 54 = .ok (.getfield 227, 3) := nq_d dX11_count_0_g (n := 6) rfl
theorem dX11_count_57 : decode cX11_count 57 = .ok (.ireturn, 1) := nq_d dX11_count_0_g (n := 7) rfl
theorem dX11_count_58 : decode cX11_count 58 = .ok (.aload_n 0, 1) := nq_d dX11_count_0_g (n := 8) rfl
theorem dX11_count_59 : decode cX11_count 59 = .ok (.getfield 215, 3) := nq_d dX11_count_0_g (n := 9) rfl
theorem dX11_count_62 : decode cX11_count 62 = .ok (.ireturn, 1) := nq_d dX11_count_0_g (n := 10) rfl
theorem dX11_count_63 : decode cX11_count 63 = .ok (.aload_n 0, 1) := nq_d dX11_count_0_g (n := 11) rfl
theorem dX11_count_64 : decode cX11_count 64 = .ok (.getfield 238, 3) := nq_d dX11_count_0_g (n := 12) rfl
theorem dX11_count_67 : decode cX11_count 67 = .ok (.ireturn, 1) := nq_d dX11_count_0_g (n := 13) rfl
theorem dX11_count_68 : decode cX11_count 68 = .ok (.aload_n 0, 1) := nq_d dX11_count_0_g (n := 14) rfl
theorem dX11_count_69 : decode cX11_count 69 = .ok (.getfield 241, 3) := nq_d dX11_count_0_g (n := 15) rfl
theorem dX11_count_72 : decode cX11_count 72 = .ok (.ireturn, 1) := nq_d dX11_count_0_g (n := 16) rfl
theorem dX11_count_73 : decode cX11_count 73 = .ok (.aload_n 0, 1) := nq_d dX11_count_0_g (n := 17) rfl
theorem dX11_count_74 : decode cX11_count 74 = .ok (.getfield 130, 3) := nq_d dX11_count_0_g (n := 18) rfl
theorem dX11_count_77 : decode cX11_count 77 = .ok (.ireturn, 1) := nq_d dX11_count_0_g (n := 19) rfl
theorem dX11_count_78 : decode cX11_count 78 = .ok (.aload_n 0, 1) := nq_d dX11_count_0_g (n := 20) rfl
theorem dX11_count_79 : decode cX11_count 79 = .ok (.getfield 19, 3) := nq_d dX11_count_0_g (n := 21) rfl
theorem dX11_count_82 : decode cX11_count 82 = .ok (.iconst 3, 1) := nq_d dX11_count_0_g (n := 22) rfl
theorem dX11_count_83 : decode cX11_count 83 = .ok (.iaload, 1) := nq_d dX11_count_0_g (n := 23) rfl
theorem dX11_count_84 : decode cX11_count 84 = .ok (.ireturn, 1) := nq_d dX11_count_0_g (n := 24) rfl
theorem dX11_count_85 : decode cX11_count 85 = .ok (.aload_n 0, 1) := nq_d dX11_count_0_g (n := 25) rfl
theorem dX11_count_86 : decode cX11_count 86 = .ok (.getfield 19, 3) := nq_d dX11_count_0_g (n := 26) rfl
theorem dX11_count_89 : decode cX11_count 89 = .ok (.iconst 4, 1) := nq_d dX11_count_0_g (n := 27) rfl
theorem dX11_count_90 : decode cX11_count 90 = .ok (.iaload, 1) := nq_d dX11_count_0_g (n := 28) rfl
theorem dX11_count_91 : decode cX11_count 91 = .ok (.ireturn, 1) := nq_d dX11_count_0_g (n := 29) rfl
theorem dX11_count_92 : decode cX11_count 92 = .ok (.iload_n 1, 1) := nq_d dX11_count_0_g (n := 30) rfl
theorem dX11_count_93 : decode cX11_count 93 = .ok (.i2l, 1) := nq_d dX11_count_0_g (n := 31) rfl
theorem dX11_count_94 : decode cX11_count 94 = .ok (.ldc2_w 124, 3) := nq_d dX11_count_0_g (n := 32) rfl
theorem dX11_count_97 : decode cX11_count 97 = .ok (.ldc2_w 244, 3) := nq_d dX11_count_0_g (n := 33) rfl
theorem dX11_count_100 : decode cX11_count 100 = .ok (.invokestatic 126, 3) := nq_d dX11_count_0_g (n := 34) rfl
theorem dX11_count_103 : decode cX11_count 103 = .ok (.ifCond .eq 15, 3) := nq_d dX11_count_0_g (n := 35) rfl
theorem dX11_count_106 : decode cX11_count 106 = .ok (.aload_n 0, 1) := nq_d dX11_count_0_g (n := 36) rfl
theorem dX11_count_107 : decode cX11_count 107 = .ok (.getfield 19, 3) := nq_d dX11_count_0_g (n := 37) rfl
theorem dX11_count_110 : decode cX11_count 110 = .ok (.iload_n 1, 1) := nq_d dX11_count_0_g (n := 38) rfl
theorem dX11_count_111 : decode cX11_count 111 = .ok (.bipush 8, 2) := nq_d dX11_count_0_g (n := 39) rfl
noncomputable def dX11_count_113_l : List (Nat × Instr × Nat) := [(113, .isub, 1), (114, .iaload, 1), (115, .goto 6, 3), (118, .sipush (-1002), 3), (121, .ireturn, 1)]
set_option maxRecDepth 100000 in
theorem dX11_count_113_g : dX11_count_113_l.all (fun x => decide (decode cX11_count x.1 = .ok x.2)) = true := by decide +kernel
theorem dX11_count_113 : decode cX11_count 113 = .ok (.isub, 1) := nq_d dX11_count_113_g (n := 0) rfl
theorem dX11_count_114 : decode cX11_count 114 = .ok (.iaload, 1) := nq_d dX11_count_113_g (n := 1) rfl
theorem dX11_count_115 : decode cX11_count 115 = .ok (.goto 6, 3) := nq_d dX11_count_113_g (n := 2) rfl
theorem dX11_count_118 : decode cX11_count 118 = .ok (.sipush (-1002), 3) := nq_d dX11_count_113_g (n := 3) rfl
theorem dX11_count_121 : decode cX11_count 121 = .ok (.ireturn, 1) := nq_d dX11_count_113_g (n := 4) rfl
set_option maxRecDepth 100000 in
theorem ggX11_guest_X11_in : GoodIn wsX11_guest wsX11_in := goodIn_sub (sub_c (nq_m (n := 16) rfl) sub_n) (by decide +kernel)
set_option maxRecDepth 100000 in
theorem gX11_guest_X11_in : GoodIn wsX11_guest (va_wsS RX11 126 yX11_in wsX11_in) := goodIn_app (goodIn_sub (sub_c (nq_m (n := 13) rfl) (sub_c (nq_m (n := 14) rfl) (sub_c (nq_m (n := 15) rfl) sub_n))) (by decide +kernel)) ggX11_guest_X11_in
noncomputable def dX11_guest_0_l : List (Nat × Instr × Nat) := [(0, .iload_n 1, 1), (1, .i2l, 1), (2, .lconst 0, 1), (3, .ldc2_w 234, 3), (6, .invokestatic 126, 3), (9, .ifCond .eq 40, 3), (12, .iload_n 2, 1), (13, .i2l, 1), (14, .lconst 0, 1), (15, .ldc2_w 236, 3), (18, .invokestatic 126, 3), (21, .ifCond .eq 28, 3), (24, .iload_n 3, 1), (25, .i2l, 1), (26, .lconst 0, 1), (27, .ldc2_w 246, 3), (30, .invokestatic 126, 3), (33, .ifCond .eq 16, 3), (36, .iload 4, 2), (38, .i2l, 1), (39, .lconst 0, 1), (40, .ldc2_w 133, 3), (43, .invokestatic 126, 3), (46, .ifCond .ne 7, 3), (49, .sipush (-1002), 3), (52, .ireturn, 1), (53, .aload_n 0, 1), (54, .getfield 227, 3), (57, .bipush 16, 2), (59, .if_icmp .ne 7, 3), (62, .sipush (-1004), 3), (65, .ireturn, 1), (66, .aload_n 0, 1), (67, .getfield 44, 3), (70, .aload_n 0, 1), (71, .getfield 227, 3), (74, .iload_n 1, 1), (75, .iastore, 1), (76, .aload_n 0, 1), (77, .getfield 47, 3)]
set_option maxRecDepth 100000 in
theorem dX11_guest_0_g : dX11_guest_0_l.all (fun x => decide (decode cX11_guest x.1 = .ok x.2)) = true := by decide +kernel
theorem dX11_guest_0 : decode cX11_guest 0 = .ok (.iload_n 1, 1) := nq_d dX11_guest_0_g (n := 0) rfl
theorem dX11_guest_1 : decode cX11_guest 1 = .ok (.i2l, 1) := nq_d dX11_guest_0_g (n := 1) rfl
theorem dX11_guest_2 : decode cX11_guest 2 = .ok (.lconst 0, 1) := nq_d dX11_guest_0_g (n := 2) rfl
theorem dX11_guest_3 : decode cX11_guest 3 = .ok (.ldc2_w 234, 3) := nq_d dX11_guest_0_g (n := 3) rfl
theorem dX11_guest_6 : decode cX11_guest 6 = .ok (.invokestatic 126, 3) := nq_d dX11_guest_0_g (n := 4) rfl
theorem dX11_guest_9 : decode cX11_guest 9 = .ok (.ifCond .eq 40, 3) := nq_d dX11_guest_0_g (n := 5) rfl
theorem dX11_guest_12 : decode cX11_guest 12 = .ok (.iload_n 2, 1) := nq_d dX11_guest_0_g (n := 6) rfl
theorem dX11_guest_13 : decode cX11_guest 13 = .ok (.i2l, 1) := nq_d dX11_guest_0_g (n := 7) rfl
theorem dX11_guest_14 : decode cX11_guest 14 = .ok (.lconst 0, 1) := nq_d dX11_guest_0_g (n := 8) rfl
theorem dX11_guest_15 : decode cX11_guest 15 = .ok (.ldc2_w 236, 3) := nq_d dX11_guest_0_g (n := 9) rfl
theorem dX11_guest_18 : decode cX11_guest 18 = .ok (.invokestatic 126, 3) := nq_d dX11_guest_0_g (n := 10) rfl
theorem dX11_guest_21 : decode cX11_guest 21 = .ok (.ifCond .eq 28, 3) := nq_d dX11_guest_0_g (n := 11) rfl
theorem dX11_guest_24 : decode cX11_guest 24 = .ok (.iload_n 3, 1) := nq_d dX11_guest_0_g (n := 12) rfl
theorem dX11_guest_25 : decode cX11_guest 25 = .ok (.i2l, 1) := nq_d dX11_guest_0_g (n := 13) rfl
theorem dX11_guest_26 : decode cX11_guest 26 = .ok (.lconst 0, 1) := nq_d dX11_guest_0_g (n := 14) rfl
theorem dX11_guest_27 : decode cX11_guest 27 = .ok (.ldc2_w 246, 3) := nq_d dX11_guest_0_g (n := 15) rfl
theorem dX11_guest_30 : decode cX11_guest 30 = .ok (.invokestatic 126, 3) := nq_d dX11_guest_0_g (n := 16) rfl
theorem dX11_guest_33 : decode cX11_guest 33 = .ok (.ifCond .eq 16, 3) := nq_d dX11_guest_0_g (n := 17) rfl
theorem dX11_guest_36 : decode cX11_guest 36 = .ok (.iload 4, 2) := nq_d dX11_guest_0_g (n := 18) rfl
theorem dX11_guest_38 : decode cX11_guest 38 = .ok (.i2l, 1) := nq_d dX11_guest_0_g (n := 19) rfl
theorem dX11_guest_39 : decode cX11_guest 39 = .ok (.lconst 0, 1) := nq_d dX11_guest_0_g (n := 20) rfl
theorem dX11_guest_40 : decode cX11_guest 40 = .ok (.ldc2_w 133, 3) := nq_d dX11_guest_0_g (n := 21) rfl
theorem dX11_guest_43 : decode cX11_guest 43 = .ok (.invokestatic 126, 3) := nq_d dX11_guest_0_g (n := 22) rfl
theorem dX11_guest_46 : decode cX11_guest 46 = .ok (.ifCond .ne 7, 3) := nq_d dX11_guest_0_g (n := 23) rfl
theorem dX11_guest_49 : decode cX11_guest 49 = .ok (.sipush (-1002), 3) := nq_d dX11_guest_0_g (n := 24) rfl
theorem dX11_guest_52 : decode cX11_guest 52 = .ok (.ireturn, 1) := nq_d dX11_guest_0_g (n := 25) rfl
theorem dX11_guest_53 : decode cX11_guest 53 = .ok (.aload_n 0, 1) := nq_d dX11_guest_0_g (n := 26) rfl
theorem dX11_guest_54 : decode cX11_guest 54 = .ok (.getfield 227, 3) := nq_d dX11_guest_0_g (n := 27) rfl
theorem dX11_guest_57 : decode cX11_guest 57 = .ok (.bipush 16, 2) := nq_d dX11_guest_0_g (n := 28) rfl
theorem dX11_guest_59 : decode cX11_guest 59 = .ok (.if_icmp .ne 7, 3) := nq_d dX11_guest_0_g (n := 29) rfl
theorem dX11_guest_62 : decode cX11_guest 62 = .ok (.sipush (-1004), 3) := nq_d dX11_guest_0_g (n := 30) rfl
theorem dX11_guest_65 : decode cX11_guest 65 = .ok (.ireturn, 1) := nq_d dX11_guest_0_g (n := 31) rfl
theorem dX11_guest_66 : decode cX11_guest 66 = .ok (.aload_n 0, 1) := nq_d dX11_guest_0_g (n := 32) rfl
theorem dX11_guest_67 : decode cX11_guest 67 = .ok (.getfield 44, 3) := nq_d dX11_guest_0_g (n := 33) rfl
theorem dX11_guest_70 : decode cX11_guest 70 = .ok (.aload_n 0, 1) := nq_d dX11_guest_0_g (n := 34) rfl
theorem dX11_guest_71 : decode cX11_guest 71 = .ok (.getfield 227, 3) := nq_d dX11_guest_0_g (n := 35) rfl
theorem dX11_guest_74 : decode cX11_guest 74 = .ok (.iload_n 1, 1) := nq_d dX11_guest_0_g (n := 36) rfl
theorem dX11_guest_75 : decode cX11_guest 75 = .ok (.iastore, 1) := nq_d dX11_guest_0_g (n := 37) rfl
theorem dX11_guest_76 : decode cX11_guest 76 = .ok (.aload_n 0, 1) := nq_d dX11_guest_0_g (n := 38) rfl
theorem dX11_guest_77 : decode cX11_guest 77 = .ok (.getfield 47, 3) := nq_d dX11_guest_0_g (n := 39) rfl
noncomputable def dX11_guest_80_l : List (Nat × Instr × Nat) := [(80, .aload_n 0, 1), (81, .getfield 227, 3), (84, .iload_n 2, 1), (85, .iastore, 1), (86, .aload_n 0, 1), (87, .getfield 50, 3), (90, .aload_n 0, 1), (91, .getfield 227, 3), (94, .iload_n 3, 1), (95, .iastore, 1), (96, .aload_n 0, 1), (97, .getfield 53, 3), (100, .aload_n 0, 1), (101, .getfield 227, 3), (104, .iload 4, 2), (106, .iastore, 1), (107, .aload_n 0, 1), (108, .getfield 56, 3), (111, .aload_n 0, 1), (112, .getfield 227, 3), (115, .iconst (-1), 1), (116, .iastore, 1), (117, .aload_n 0, 1), (118, .getfield 59, 3), (121, .aload_n 0, 1), (122, .getfield 227, 3), (125, .iconst (-1), 1), (126, .iastore, 1), (127, .aload_n 0, 1), (128, .getfield 62, 3), (131, .aload_n 0, 1), (132, .getfield 227, 3), (135, .iconst (-1), 1), (136, .iastore, 1), (137, .aload_n 0, 1), (138, .dup, 1), (139, .getfield 227, 3), (142, .iconst 1, 1), (143, .iadd, 1), (144, .putfield 227, 3)]
set_option maxRecDepth 100000 in
theorem dX11_guest_80_g : dX11_guest_80_l.all (fun x => decide (decode cX11_guest x.1 = .ok x.2)) = true := by decide +kernel
theorem dX11_guest_80 : decode cX11_guest 80 = .ok (.aload_n 0, 1) := nq_d dX11_guest_80_g (n := 0) rfl
theorem dX11_guest_81 : decode cX11_guest 81 = .ok (.getfield 227, 3) := nq_d dX11_guest_80_g (n := 1) rfl
theorem dX11_guest_84 : decode cX11_guest 84 = .ok (.iload_n 2, 1) := nq_d dX11_guest_80_g (n := 2) rfl
theorem dX11_guest_85 : decode cX11_guest 85 = .ok (.iastore, 1) := nq_d dX11_guest_80_g (n := 3) rfl
theorem dX11_guest_86 : decode cX11_guest 86 = .ok (.aload_n 0, 1) := nq_d dX11_guest_80_g (n := 4) rfl
theorem dX11_guest_87 : decode cX11_guest 87 = .ok (.getfield 50, 3) := nq_d dX11_guest_80_g (n := 5) rfl
theorem dX11_guest_90 : decode cX11_guest 90 = .ok (.aload_n 0, 1) := nq_d dX11_guest_80_g (n := 6) rfl
theorem dX11_guest_91 : decode cX11_guest 91 = .ok (.getfield 227, 3) := nq_d dX11_guest_80_g (n := 7) rfl
theorem dX11_guest_94 : decode cX11_guest 94 = .ok (.iload_n 3, 1) := nq_d dX11_guest_80_g (n := 8) rfl
theorem dX11_guest_95 : decode cX11_guest 95 = .ok (.iastore, 1) := nq_d dX11_guest_80_g (n := 9) rfl
theorem dX11_guest_96 : decode cX11_guest 96 = .ok (.aload_n 0, 1) := nq_d dX11_guest_80_g (n := 10) rfl
theorem dX11_guest_97 : decode cX11_guest 97 = .ok (.getfield 53, 3) := nq_d dX11_guest_80_g (n := 11) rfl
theorem dX11_guest_100 : decode cX11_guest 100 = .ok (.aload_n 0, 1) := nq_d dX11_guest_80_g (n := 12) rfl
theorem dX11_guest_101 : decode cX11_guest 101 = .ok (.getfield 227, 3) := nq_d dX11_guest_80_g (n := 13) rfl
theorem dX11_guest_104 : decode cX11_guest 104 = .ok (.iload 4, 2) := nq_d dX11_guest_80_g (n := 14) rfl
theorem dX11_guest_106 : decode cX11_guest 106 = .ok (.iastore, 1) := nq_d dX11_guest_80_g (n := 15) rfl
theorem dX11_guest_107 : decode cX11_guest 107 = .ok (.aload_n 0, 1) := nq_d dX11_guest_80_g (n := 16) rfl
theorem dX11_guest_108 : decode cX11_guest 108 = .ok (.getfield 56, 3) := nq_d dX11_guest_80_g (n := 17) rfl
theorem dX11_guest_111 : decode cX11_guest 111 = .ok (.aload_n 0, 1) := nq_d dX11_guest_80_g (n := 18) rfl
theorem dX11_guest_112 : decode cX11_guest 112 = .ok (.getfield 227, 3) := nq_d dX11_guest_80_g (n := 19) rfl
theorem dX11_guest_115 : decode cX11_guest 115 = .ok (.iconst (-1), 1) := nq_d dX11_guest_80_g (n := 20) rfl
theorem dX11_guest_116 : decode cX11_guest 116 = .ok (.iastore, 1) := nq_d dX11_guest_80_g (n := 21) rfl
theorem dX11_guest_117 : decode cX11_guest 117 = .ok (.aload_n 0, 1) := nq_d dX11_guest_80_g (n := 22) rfl
theorem dX11_guest_118 : decode cX11_guest 118 = .ok (.getfield 59, 3) := nq_d dX11_guest_80_g (n := 23) rfl
theorem dX11_guest_121 : decode cX11_guest 121 = .ok (.aload_n 0, 1) := nq_d dX11_guest_80_g (n := 24) rfl
theorem dX11_guest_122 : decode cX11_guest 122 = .ok (.getfield 227, 3) := nq_d dX11_guest_80_g (n := 25) rfl
theorem dX11_guest_125 : decode cX11_guest 125 = .ok (.iconst (-1), 1) := nq_d dX11_guest_80_g (n := 26) rfl
theorem dX11_guest_126 : decode cX11_guest 126 = .ok (.iastore, 1) := nq_d dX11_guest_80_g (n := 27) rfl
theorem dX11_guest_127 : decode cX11_guest 127 = .ok (.aload_n 0, 1) := nq_d dX11_guest_80_g (n := 28) rfl
theorem dX11_guest_128 : decode cX11_guest 128 = .ok (.getfield 62, 3) := nq_d dX11_guest_80_g (n := 29) rfl
theorem dX11_guest_131 : decode cX11_guest 131 = .ok (.aload_n 0, 1) := nq_d dX11_guest_80_g (n := 30) rfl
theorem dX11_guest_132 : decode cX11_guest 132 = .ok (.getfield 227, 3) := nq_d dX11_guest_80_g (n := 31) rfl
theorem dX11_guest_135 : decode cX11_guest 135 = .ok (.iconst (-1), 1) := nq_d dX11_guest_80_g (n := 32) rfl
theorem dX11_guest_136 : decode cX11_guest 136 = .ok (.iastore, 1) := nq_d dX11_guest_80_g (n := 33) rfl
theorem dX11_guest_137 : decode cX11_guest 137 = .ok (.aload_n 0, 1) := nq_d dX11_guest_80_g (n := 34) rfl
theorem dX11_guest_138 : decode cX11_guest 138 = .ok (.dup, 1) := nq_d dX11_guest_80_g (n := 35) rfl
theorem dX11_guest_139 : decode cX11_guest 139 = .ok (.getfield 227, 3) := nq_d dX11_guest_80_g (n := 36) rfl
theorem dX11_guest_142 : decode cX11_guest 142 = .ok (.iconst 1, 1) := nq_d dX11_guest_80_g (n := 37) rfl
theorem dX11_guest_143 : decode cX11_guest 143 = .ok (.iadd, 1) := nq_d dX11_guest_80_g (n := 38) rfl
theorem dX11_guest_144 : decode cX11_guest 144 = .ok (.putfield 227, 3) := nq_d dX11_guest_80_g (n := 39) rfl
noncomputable def dX11_guest_147_l : List (Nat × Instr × Nat) := [(147, .aload_n 0, 1), (148, .getfield 227, 3), (151, .iconst 1, 1), (152, .isub, 1), (153, .ireturn, 1)]
set_option maxRecDepth 100000 in
theorem dX11_guest_147_g : dX11_guest_147_l.all (fun x => decide (decode cX11_guest x.1 = .ok x.2)) = true := by decide +kernel
theorem dX11_guest_147 : decode cX11_guest 147 = .ok (.aload_n 0, 1) := nq_d dX11_guest_147_g (n := 0) rfl
theorem dX11_guest_148 : decode cX11_guest 148 = .ok (.getfield 227, 3) := nq_d dX11_guest_147_g (n := 1) rfl
theorem dX11_guest_151 : decode cX11_guest 151 = .ok (.iconst 1, 1) := nq_d dX11_guest_147_g (n := 2) rfl
theorem dX11_guest_152 : decode cX11_guest 152 = .ok (.isub, 1) := nq_d dX11_guest_147_g (n := 3) rfl
theorem dX11_guest_153 : decode cX11_guest 153 = .ok (.ireturn, 1) := nq_d dX11_guest_147_g (n := 4) rfl
noncomputable def dX11_pegOf_0_l : List (Nat × Instr × Nat) := [(0, .iconst (-1), 1), (1, .istore_n 2, 1), (2, .iconst 0, 1), (3, .istore_n 3, 1), (4, .iload_n 3, 1), (5, .aload_n 0, 1), (6, .getfield 221, 3), (9, .if_icmp .ge 25, 3), (12, .aload_n 0, 1), (13, .getfield 41, 3), (16, .iload_n 3, 1), (17, .iaload, 1), (18, .iload_n 1, 1), (19, .if_icmp .ne 7, 3), (22, .iload_n 3, 1), (23, .goto 4, 3), (26, .iload_n 2, 1), (27, .istore_n 2, 1), (28, .iinc 3 1, 3), (31, .goto (-27), 3), (34, .iload_n 2, 1), (35, .ireturn, 1)]
set_option maxRecDepth 100000 in
theorem dX11_pegOf_0_g : dX11_pegOf_0_l.all (fun x => decide (decode cX11_pegOf x.1 = .ok x.2)) = true := by decide +kernel
theorem dX11_pegOf_0 : decode cX11_pegOf 0 = .ok (.iconst (-1), 1) := nq_d dX11_pegOf_0_g (n := 0) rfl
theorem dX11_pegOf_1 : decode cX11_pegOf 1 = .ok (.istore_n 2, 1) := nq_d dX11_pegOf_0_g (n := 1) rfl
theorem dX11_pegOf_2 : decode cX11_pegOf 2 = .ok (.iconst 0, 1) := nq_d dX11_pegOf_0_g (n := 2) rfl
theorem dX11_pegOf_3 : decode cX11_pegOf 3 = .ok (.istore_n 3, 1) := nq_d dX11_pegOf_0_g (n := 3) rfl
theorem dX11_pegOf_4 : decode cX11_pegOf 4 = .ok (.iload_n 3, 1) := nq_d dX11_pegOf_0_g (n := 4) rfl
theorem dX11_pegOf_5 : decode cX11_pegOf 5 = .ok (.aload_n 0, 1) := nq_d dX11_pegOf_0_g (n := 5) rfl
theorem dX11_pegOf_6 : decode cX11_pegOf 6 = .ok (.getfield 221, 3) := nq_d dX11_pegOf_0_g (n := 6) rfl
theorem dX11_pegOf_9 : decode cX11_pegOf 9 = .ok (.if_icmp .ge 25, 3) := nq_d dX11_pegOf_0_g (n := 7) rfl
theorem dX11_pegOf_12 : decode cX11_pegOf 12 = .ok (.aload_n 0, 1) := nq_d dX11_pegOf_0_g (n := 8) rfl
theorem dX11_pegOf_13 : decode cX11_pegOf 13 = .ok (.getfield 41, 3) := nq_d dX11_pegOf_0_g (n := 9) rfl
theorem dX11_pegOf_16 : decode cX11_pegOf 16 = .ok (.iload_n 3, 1) := nq_d dX11_pegOf_0_g (n := 10) rfl
theorem dX11_pegOf_17 : decode cX11_pegOf 17 = .ok (.iaload, 1) := nq_d dX11_pegOf_0_g (n := 11) rfl
theorem dX11_pegOf_18 : decode cX11_pegOf 18 = .ok (.iload_n 1, 1) := nq_d dX11_pegOf_0_g (n := 12) rfl
theorem dX11_pegOf_19 : decode cX11_pegOf 19 = .ok (.if_icmp .ne 7, 3) := nq_d dX11_pegOf_0_g (n := 13) rfl
theorem dX11_pegOf_22 : decode cX11_pegOf 22 = .ok (.iload_n 3, 1) := nq_d dX11_pegOf_0_g (n := 14) rfl
theorem dX11_pegOf_23 : decode cX11_pegOf 23 = .ok (.goto 4, 3) := nq_d dX11_pegOf_0_g (n := 15) rfl
theorem dX11_pegOf_26 : decode cX11_pegOf 26 = .ok (.iload_n 2, 1) := nq_d dX11_pegOf_0_g (n := 16) rfl
theorem dX11_pegOf_27 : decode cX11_pegOf 27 = .ok (.istore_n 2, 1) := nq_d dX11_pegOf_0_g (n := 17) rfl
theorem dX11_pegOf_28 : decode cX11_pegOf 28 = .ok (.iinc 3 1, 3) := nq_d dX11_pegOf_0_g (n := 18) rfl
theorem dX11_pegOf_31 : decode cX11_pegOf 31 = .ok (.goto (-27), 3) := nq_d dX11_pegOf_0_g (n := 19) rfl
theorem dX11_pegOf_34 : decode cX11_pegOf 34 = .ok (.iload_n 2, 1) := nq_d dX11_pegOf_0_g (n := 20) rfl
theorem dX11_pegOf_35 : decode cX11_pegOf 35 = .ok (.ireturn, 1) := nq_d dX11_pegOf_0_g (n := 21) rfl
noncomputable def dX11_holderOf_0_l : List (Nat × Instr × Nat) := [(0, .iconst (-1), 1), (1, .istore_n 2, 1), (2, .iconst 0, 1), (3, .istore_n 3, 1), (4, .iload_n 3, 1), (5, .aload_n 0, 1), (6, .getfield 227, 3), (9, .if_icmp .ge 25, 3), (12, .aload_n 0, 1), (13, .getfield 59, 3), (16, .iload_n 3, 1), (17, .iaload, 1), (18, .iload_n 1, 1), (19, .if_icmp .ne 7, 3), (22, .iload_n 3, 1), (23, .goto 4, 3), (26, .iload_n 2, 1), (27, .istore_n 2, 1), (28, .iinc 3 1, 3), (31, .goto (-27), 3), (34, .iload_n 2, 1), (35, .ireturn, 1)]
set_option maxRecDepth 100000 in
theorem dX11_holderOf_0_g : dX11_holderOf_0_l.all (fun x => decide (decode cX11_holderOf x.1 = .ok x.2)) = true := by decide +kernel
theorem dX11_holderOf_0 : decode cX11_holderOf 0 = .ok (.iconst (-1), 1) := nq_d dX11_holderOf_0_g (n := 0) rfl
theorem dX11_holderOf_1 : decode cX11_holderOf 1 = .ok (.istore_n 2, 1) := nq_d dX11_holderOf_0_g (n := 1) rfl
theorem dX11_holderOf_2 : decode cX11_holderOf 2 = .ok (.iconst 0, 1) := nq_d dX11_holderOf_0_g (n := 2) rfl
theorem dX11_holderOf_3 : decode cX11_holderOf 3 = .ok (.istore_n 3, 1) := nq_d dX11_holderOf_0_g (n := 3) rfl
theorem dX11_holderOf_4 : decode cX11_holderOf 4 = .ok (.iload_n 3, 1) := nq_d dX11_holderOf_0_g (n := 4) rfl
theorem dX11_holderOf_5 : decode cX11_holderOf 5 = .ok (.aload_n 0, 1) := nq_d dX11_holderOf_0_g (n := 5) rfl
theorem dX11_holderOf_6 : decode cX11_holderOf 6 = .ok (.getfield 227, 3) := nq_d dX11_holderOf_0_g (n := 6) rfl
theorem dX11_holderOf_9 : decode cX11_holderOf 9 = .ok (.if_icmp .ge 25, 3) := nq_d dX11_holderOf_0_g (n := 7) rfl
theorem dX11_holderOf_12 : decode cX11_holderOf 12 = .ok (.aload_n 0, 1) := nq_d dX11_holderOf_0_g (n := 8) rfl
theorem dX11_holderOf_13 : decode cX11_holderOf 13 = .ok (.getfield 59, 3) := nq_d dX11_holderOf_0_g (n := 9) rfl
theorem dX11_holderOf_16 : decode cX11_holderOf 16 = .ok (.iload_n 3, 1) := nq_d dX11_holderOf_0_g (n := 10) rfl
theorem dX11_holderOf_17 : decode cX11_holderOf 17 = .ok (.iaload, 1) := nq_d dX11_holderOf_0_g (n := 11) rfl
theorem dX11_holderOf_18 : decode cX11_holderOf 18 = .ok (.iload_n 1, 1) := nq_d dX11_holderOf_0_g (n := 12) rfl
theorem dX11_holderOf_19 : decode cX11_holderOf 19 = .ok (.if_icmp .ne 7, 3) := nq_d dX11_holderOf_0_g (n := 13) rfl
theorem dX11_holderOf_22 : decode cX11_holderOf 22 = .ok (.iload_n 3, 1) := nq_d dX11_holderOf_0_g (n := 14) rfl
theorem dX11_holderOf_23 : decode cX11_holderOf 23 = .ok (.goto 4, 3) := nq_d dX11_holderOf_0_g (n := 15) rfl
theorem dX11_holderOf_26 : decode cX11_holderOf 26 = .ok (.iload_n 2, 1) := nq_d dX11_holderOf_0_g (n := 16) rfl
theorem dX11_holderOf_27 : decode cX11_holderOf 27 = .ok (.istore_n 2, 1) := nq_d dX11_holderOf_0_g (n := 17) rfl
theorem dX11_holderOf_28 : decode cX11_holderOf 28 = .ok (.iinc 3 1, 3) := nq_d dX11_holderOf_0_g (n := 18) rfl
theorem dX11_holderOf_31 : decode cX11_holderOf 31 = .ok (.goto (-27), 3) := nq_d dX11_holderOf_0_g (n := 19) rfl
theorem dX11_holderOf_34 : decode cX11_holderOf 34 = .ok (.iload_n 2, 1) := nq_d dX11_holderOf_0_g (n := 20) rfl
theorem dX11_holderOf_35 : decode cX11_holderOf 35 = .ok (.ireturn, 1) := nq_d dX11_holderOf_0_g (n := 21) rfl
set_option maxRecDepth 100000 in
theorem ggX11_expected_X11_learntOf : GoodIn wsX11_expected wsX11_learntOf := goodIn_sub (sub_c (nq_m (n := 10) rfl) (sub_c (nq_m (n := 11) rfl) (sub_c (nq_m (n := 12) rfl) (sub_c (nq_m (n := 13) rfl) (sub_c (nq_m (n := 14) rfl) (sub_c (nq_m (n := 15) rfl) (sub_c (nq_m (n := 16) rfl) (sub_c (nq_m (n := 17) rfl) (sub_c (nq_m (n := 18) rfl) (sub_c (nq_m (n := 19) rfl) (sub_c (nq_m (n := 20) rfl) (sub_c (nq_m (n := 21) rfl) (sub_c (nq_m (n := 22) rfl) (sub_c (nq_m (n := 23) rfl) (sub_c (nq_m (n := 24) rfl) (sub_c (nq_m (n := 25) rfl) (sub_c (nq_m (n := 26) rfl) (sub_c (nq_m (n := 27) rfl) (sub_c (nq_m (n := 28) rfl) (sub_c (nq_m (n := 29) rfl) (sub_c (nq_m (n := 30) rfl) (sub_c (nq_m (n := 31) rfl) (sub_c (nq_m (n := 32) rfl) (sub_c (nq_m (n := 33) rfl) (sub_c (nq_m (n := 34) rfl) (sub_c (nq_m (n := 35) rfl) (sub_c (nq_m (n := 36) rfl) (sub_c (nq_m (n := 37) rfl) (sub_c (nq_m (n := 38) rfl) (sub_c (nq_m (n := 39) rfl) (sub_c (nq_m (n := 40) rfl) (sub_c (nq_m (n := 41) rfl) (sub_c (nq_m (n := 42) rfl) (sub_c (nq_m (n := 43) rfl) (sub_c (nq_m (n := 44) rfl) (sub_c (nq_m (n := 45) rfl) (sub_c (nq_m (n := 46) rfl) (sub_c (nq_m (n := 47) rfl) (sub_c (nq_m (n := 48) rfl) (sub_c (nq_m (n := 49) rfl) (sub_c (nq_m (n := 50) rfl) (sub_c (nq_m (n := 51) rfl) (sub_c (nq_m (n := 52) rfl) (sub_c (nq_m (n := 53) rfl) (sub_c (nq_m (n := 54) rfl) (sub_c (nq_m (n := 55) rfl) (sub_c (nq_m (n := 56) rfl) (sub_c (nq_m (n := 57) rfl) (sub_c (nq_m (n := 58) rfl) (sub_c (nq_m (n := 59) rfl) (sub_c (nq_m (n := 60) rfl) (sub_c (nq_m (n := 61) rfl) (sub_c (nq_m (n := 62) rfl) (sub_c (nq_m (n := 63) rfl) (sub_c (nq_m (n := 64) rfl) (sub_c (nq_m (n := 65) rfl) (sub_c (nq_m (n := 66) rfl) (sub_c (nq_m (n := 67) rfl) (sub_c (nq_m (n := 68) rfl) (sub_c (nq_m (n := 69) rfl) (sub_c (nq_m (n := 70) rfl) (sub_c (nq_m (n := 71) rfl) (sub_c (nq_m (n := 72) rfl) sub_n))))))))))))))))))))))))))))))))))))))))))))))))))))))))))))))) (by decide +kernel)
set_option maxRecDepth 100000 in
theorem gX11_expected_X11_learntOf : GoodIn wsX11_expected (wsV RX11 251 RX11 yX11_learntOf wsX11_learntOf) := goodIn_app (goodIn_sub (sub_c (nq_m (n := 6) rfl) (sub_c (nq_m (n := 7) rfl) (sub_c (nq_m (n := 8) rfl) (sub_c (nq_m (n := 9) rfl) sub_n)))) (by decide +kernel)) ggX11_expected_X11_learntOf
noncomputable def dX11_expected_0_l : List (Nat × Instr × Nat) := [(0, .iconst 0, 1), (1, .istore_n 2, 1), (2, .iconst 0, 1), (3, .istore_n 3, 1), (4, .iload_n 3, 1), (5, .iconst 3, 1), (6, .if_icmp .ge 61, 3), (9, .aload_n 0, 1), (10, .getfield 65, 3), (13, .ifCond .ge 21, 3), (16, .aload_n 0, 1), (17, .getfield 16, 3), (20, .iconst 3, 1), (21, .aload_n 0, 1), (22, .getfield 44, 3), (25, .iload_n 1, 1), (26, .iaload, 1), (27, .imul, 1), (28, .iload_n 3, 1), (29, .iadd, 1), (30, .iaload, 1), (31, .goto 16, 3), (34, .aload_n 0, 1), (35, .aload_n 0, 1), (36, .getfield 65, 3), (39, .aload_n 0, 1), (40, .getfield 248, 3), (43, .iload_n 3, 1), (44, .invokevirtual 251, 3), (47, .istore 4, 2), (49, .iload_n 2, 1), (50, .iload 4, 2), (52, .aload_n 0, 1), (53, .getfield 19, 3), (56, .iload_n 3, 1), (57, .iaload, 1), (58, .imul, 1), (59, .iadd, 1), (60, .istore_n 2, 1), (61, .iinc 3 1, 3)]
set_option maxRecDepth 100000 in
theorem dX11_expected_0_g : dX11_expected_0_l.all (fun x => decide (decode cX11_expected x.1 = .ok x.2)) = true := by decide +kernel
theorem dX11_expected_0 : decode cX11_expected 0 = .ok (.iconst 0, 1) := nq_d dX11_expected_0_g (n := 0) rfl
theorem dX11_expected_1 : decode cX11_expected 1 = .ok (.istore_n 2, 1) := nq_d dX11_expected_0_g (n := 1) rfl
theorem dX11_expected_2 : decode cX11_expected 2 = .ok (.iconst 0, 1) := nq_d dX11_expected_0_g (n := 2) rfl
theorem dX11_expected_3 : decode cX11_expected 3 = .ok (.istore_n 3, 1) := nq_d dX11_expected_0_g (n := 3) rfl
theorem dX11_expected_4 : decode cX11_expected 4 = .ok (.iload_n 3, 1) := nq_d dX11_expected_0_g (n := 4) rfl
theorem dX11_expected_5 : decode cX11_expected 5 = .ok (.iconst 3, 1) := nq_d dX11_expected_0_g (n := 5) rfl
theorem dX11_expected_6 : decode cX11_expected 6 = .ok (.if_icmp .ge 61, 3) := nq_d dX11_expected_0_g (n := 6) rfl
theorem dX11_expected_9 : decode cX11_expected 9 = .ok (.aload_n 0, 1) := nq_d dX11_expected_0_g (n := 7) rfl
theorem dX11_expected_10 : decode cX11_expected 10 = .ok (.getfield 65, 3) := nq_d dX11_expected_0_g (n := 8) rfl
theorem dX11_expected_13 : decode cX11_expected 13 = .ok (.ifCond .ge 21, 3) := nq_d dX11_expected_0_g (n := 9) rfl
theorem dX11_expected_16 : decode cX11_expected 16 = .ok (.aload_n 0, 1) := nq_d dX11_expected_0_g (n := 10) rfl
theorem dX11_expected_17 : decode cX11_expected 17 = .ok (.getfield 16, 3) := nq_d dX11_expected_0_g (n := 11) rfl
theorem dX11_expected_20 : decode cX11_expected 20 = .ok (.iconst 3, 1) := nq_d dX11_expected_0_g (n := 12) rfl
theorem dX11_expected_21 : decode cX11_expected 21 = .ok (.aload_n 0, 1) := nq_d dX11_expected_0_g (n := 13) rfl
theorem dX11_expected_22 : decode cX11_expected 22 = .ok (.getfield 44, 3) := nq_d dX11_expected_0_g (n := 14) rfl
theorem dX11_expected_25 : decode cX11_expected 25 = .ok (.iload_n 1, 1) := nq_d dX11_expected_0_g (n := 15) rfl
theorem dX11_expected_26 : decode cX11_expected 26 = .ok (.iaload, 1) := nq_d dX11_expected_0_g (n := 16) rfl
theorem dX11_expected_27 : decode cX11_expected 27 = .ok (.imul, 1) := nq_d dX11_expected_0_g (n := 17) rfl
theorem dX11_expected_28 : decode cX11_expected 28 = .ok (.iload_n 3, 1) := nq_d dX11_expected_0_g (n := 18) rfl
theorem dX11_expected_29 : decode cX11_expected 29 = .ok (.iadd, 1) := nq_d dX11_expected_0_g (n := 19) rfl
theorem dX11_expected_30 : decode cX11_expected 30 = .ok (.iaload, 1) := nq_d dX11_expected_0_g (n := 20) rfl
theorem dX11_expected_31 : decode cX11_expected 31 = .ok (.goto 16, 3) := nq_d dX11_expected_0_g (n := 21) rfl
theorem dX11_expected_34 : decode cX11_expected 34 = .ok (.aload_n 0, 1) := nq_d dX11_expected_0_g (n := 22) rfl
theorem dX11_expected_35 : decode cX11_expected 35 = .ok (.aload_n 0, 1) := nq_d dX11_expected_0_g (n := 23) rfl
theorem dX11_expected_36 : decode cX11_expected 36 = .ok (.getfield 65, 3) := nq_d dX11_expected_0_g (n := 24) rfl
theorem dX11_expected_39 : decode cX11_expected 39 = .ok (.aload_n 0, 1) := nq_d dX11_expected_0_g (n := 25) rfl
theorem dX11_expected_40 : decode cX11_expected 40 = .ok (.getfield 248, 3) := nq_d dX11_expected_0_g (n := 26) rfl
theorem dX11_expected_43 : decode cX11_expected 43 = .ok (.iload_n 3, 1) := nq_d dX11_expected_0_g (n := 27) rfl
theorem dX11_expected_44 : decode cX11_expected 44 = .ok (.invokevirtual 251, 3) := nq_d dX11_expected_0_g (n := 28) rfl
theorem dX11_expected_47 : decode cX11_expected 47 = .ok (.istore 4, 2) := nq_d dX11_expected_0_g (n := 29) rfl
theorem dX11_expected_49 : decode cX11_expected 49 = .ok (.iload_n 2, 1) := nq_d dX11_expected_0_g (n := 30) rfl
theorem dX11_expected_50 : decode cX11_expected 50 = .ok (.iload 4, 2) := nq_d dX11_expected_0_g (n := 31) rfl
theorem dX11_expected_52 : decode cX11_expected 52 = .ok (.aload_n 0, 1) := nq_d dX11_expected_0_g (n := 32) rfl
theorem dX11_expected_53 : decode cX11_expected 53 = .ok (.getfield 19, 3) := nq_d dX11_expected_0_g (n := 33) rfl
theorem dX11_expected_56 : decode cX11_expected 56 = .ok (.iload_n 3, 1) := nq_d dX11_expected_0_g (n := 34) rfl
theorem dX11_expected_57 : decode cX11_expected 57 = .ok (.iaload, 1) := nq_d dX11_expected_0_g (n := 35) rfl
theorem dX11_expected_58 : decode cX11_expected 58 = .ok (.imul, 1) := nq_d dX11_expected_0_g (n := 36) rfl
theorem dX11_expected_59 : decode cX11_expected 59 = .ok (.iadd, 1) := nq_d dX11_expected_0_g (n := 37) rfl
theorem dX11_expected_60 : decode cX11_expected 60 = .ok (.istore_n 2, 1) := nq_d dX11_expected_0_g (n := 38) rfl
theorem dX11_expected_61 : decode cX11_expected 61 = .ok (.iinc 3 1, 3) := nq_d dX11_expected_0_g (n := 39) rfl
noncomputable def dX11_expected_64_l : List (Nat × Instr × Nat) := [(64, .goto (-60), 3), (67, .iload_n 2, 1), (68, .ireturn, 1)]
set_option maxRecDepth 100000 in
theorem dX11_expected_64_g : dX11_expected_64_l.all (fun x => decide (decode cX11_expected x.1 = .ok x.2)) = true := by decide +kernel
theorem dX11_expected_64 : decode cX11_expected 64 = .ok (.goto (-60), 3) := nq_d dX11_expected_64_g (n := 0) rfl
theorem dX11_expected_67 : decode cX11_expected 67 = .ok (.iload_n 2, 1) := nq_d dX11_expected_64_g (n := 1) rfl
theorem dX11_expected_68 : decode cX11_expected 68 = .ok (.ireturn, 1) := nq_d dX11_expected_64_g (n := 2) rfl
set_option maxRecDepth 100000 in
theorem ggX11_told_X11_isGuest : GoodIn wsX11_told wsX11_isGuest := goodIn_sub (sub_c (nq_m (n := 11) rfl) (sub_c (nq_m (n := 12) rfl) (sub_c (nq_m (n := 13) rfl) (sub_c (nq_m (n := 14) rfl) (sub_c (nq_m (n := 10) rfl) (sub_c (nq_m (n := 15) rfl) (sub_c (nq_m (n := 42) rfl) (sub_c (nq_m (n := 43) rfl) (sub_c (nq_m (n := 44) rfl) (sub_c (nq_m (n := 45) rfl) (sub_c (nq_m (n := 46) rfl) (sub_c (nq_m (n := 47) rfl) (sub_c (nq_m (n := 48) rfl) (sub_c (nq_m (n := 49) rfl) (sub_c (nq_m (n := 50) rfl) (sub_c (nq_m (n := 51) rfl) (sub_c (nq_m (n := 52) rfl) (sub_c (nq_m (n := 53) rfl) (sub_c (nq_m (n := 54) rfl) (sub_c (nq_m (n := 55) rfl) (sub_c (nq_m (n := 56) rfl) (sub_c (nq_m (n := 57) rfl) (sub_c (nq_m (n := 58) rfl) (sub_c (nq_m (n := 59) rfl) (sub_c (nq_m (n := 60) rfl) (sub_c (nq_m (n := 61) rfl) (sub_c (nq_m (n := 62) rfl) (sub_c (nq_m (n := 63) rfl) (sub_c (nq_m (n := 64) rfl) (sub_c (nq_m (n := 65) rfl) (sub_c (nq_m (n := 66) rfl) (sub_c (nq_m (n := 67) rfl) (sub_c (nq_m (n := 68) rfl) (sub_c (nq_m (n := 69) rfl) (sub_c (nq_m (n := 70) rfl) (sub_c (nq_m (n := 71) rfl) (sub_c (nq_m (n := 72) rfl) (sub_c (nq_m (n := 73) rfl) (sub_c (nq_m (n := 74) rfl) (sub_c (nq_m (n := 75) rfl) (sub_c (nq_m (n := 76) rfl) (sub_c (nq_m (n := 77) rfl) (sub_c (nq_m (n := 78) rfl) (sub_c (nq_m (n := 79) rfl) (sub_c (nq_m (n := 80) rfl) (sub_c (nq_m (n := 81) rfl) (sub_c (nq_m (n := 82) rfl) (sub_c (nq_m (n := 83) rfl) (sub_c (nq_m (n := 84) rfl) (sub_c (nq_m (n := 85) rfl) (sub_c (nq_m (n := 86) rfl) (sub_c (nq_m (n := 87) rfl) (sub_c (nq_m (n := 88) rfl) (sub_c (nq_m (n := 89) rfl) (sub_c (nq_m (n := 90) rfl) (sub_c (nq_m (n := 91) rfl) (sub_c (nq_m (n := 92) rfl) (sub_c (nq_m (n := 93) rfl) (sub_c (nq_m (n := 94) rfl) (sub_c (nq_m (n := 95) rfl) (sub_c (nq_m (n := 96) rfl) (sub_c (nq_m (n := 97) rfl) (sub_c (nq_m (n := 98) rfl) (sub_c (nq_m (n := 99) rfl) sub_n)))))))))))))))))))))))))))))))))))))))))))))))))))))))))))))))) (by decide +kernel)
set_option maxRecDepth 100000 in
theorem gX11_told_X11_isGuest : GoodIn wsX11_told (wsV RX11 255 RX11 yX11_isGuest wsX11_isGuest) := goodIn_app (goodIn_sub (sub_c (nq_m (n := 7) rfl) (sub_c (nq_m (n := 8) rfl) (sub_c (nq_m (n := 9) rfl) (sub_c (nq_m (n := 10) rfl) sub_n)))) (by decide +kernel)) ggX11_told_X11_isGuest
set_option maxRecDepth 100000 in
theorem ggX11_told_X11_pegOf : GoodIn wsX11_told wsX11_pegOf := goodIn_sub (sub_c (nq_m (n := 19) rfl) (sub_c (nq_m (n := 20) rfl) (sub_c (nq_m (n := 21) rfl) (sub_c (nq_m (n := 42) rfl) (sub_c (nq_m (n := 43) rfl) (sub_c (nq_m (n := 44) rfl) (sub_c (nq_m (n := 45) rfl) (sub_c (nq_m (n := 46) rfl) (sub_c (nq_m (n := 47) rfl) (sub_c (nq_m (n := 48) rfl) (sub_c (nq_m (n := 49) rfl) (sub_c (nq_m (n := 50) rfl) (sub_c (nq_m (n := 51) rfl) (sub_c (nq_m (n := 52) rfl) (sub_c (nq_m (n := 53) rfl) (sub_c (nq_m (n := 54) rfl) (sub_c (nq_m (n := 55) rfl) (sub_c (nq_m (n := 56) rfl) (sub_c (nq_m (n := 57) rfl) (sub_c (nq_m (n := 58) rfl) (sub_c (nq_m (n := 59) rfl) (sub_c (nq_m (n := 60) rfl) (sub_c (nq_m (n := 61) rfl) (sub_c (nq_m (n := 62) rfl) (sub_c (nq_m (n := 63) rfl) (sub_c (nq_m (n := 64) rfl) (sub_c (nq_m (n := 65) rfl) (sub_c (nq_m (n := 66) rfl) (sub_c (nq_m (n := 67) rfl) (sub_c (nq_m (n := 68) rfl) (sub_c (nq_m (n := 69) rfl) (sub_c (nq_m (n := 70) rfl) (sub_c (nq_m (n := 71) rfl) (sub_c (nq_m (n := 72) rfl) (sub_c (nq_m (n := 73) rfl) (sub_c (nq_m (n := 74) rfl) (sub_c (nq_m (n := 75) rfl) (sub_c (nq_m (n := 76) rfl) (sub_c (nq_m (n := 77) rfl) (sub_c (nq_m (n := 78) rfl) (sub_c (nq_m (n := 79) rfl) (sub_c (nq_m (n := 80) rfl) (sub_c (nq_m (n := 81) rfl) (sub_c (nq_m (n := 82) rfl) (sub_c (nq_m (n := 83) rfl) (sub_c (nq_m (n := 84) rfl) (sub_c (nq_m (n := 85) rfl) (sub_c (nq_m (n := 86) rfl) (sub_c (nq_m (n := 87) rfl) (sub_c (nq_m (n := 88) rfl) (sub_c (nq_m (n := 89) rfl) (sub_c (nq_m (n := 90) rfl) (sub_c (nq_m (n := 91) rfl) (sub_c (nq_m (n := 92) rfl) (sub_c (nq_m (n := 93) rfl) (sub_c (nq_m (n := 94) rfl) (sub_c (nq_m (n := 95) rfl) (sub_c (nq_m (n := 96) rfl) (sub_c (nq_m (n := 97) rfl) (sub_c (nq_m (n := 98) rfl) (sub_c (nq_m (n := 99) rfl) sub_n))))))))))))))))))))))))))))))))))))))))))))))))))))))))))))) (by decide +kernel)
set_option maxRecDepth 100000 in
theorem gX11_told_X11_pegOf : GoodIn wsX11_told (wsV RX11 258 RX11 yX11_pegOf wsX11_pegOf) := goodIn_app (goodIn_sub (sub_c (nq_m (n := 16) rfl) (sub_c (nq_m (n := 17) rfl) (sub_c (nq_m (n := 18) rfl) (sub_c (nq_m (n := 10) rfl) sub_n)))) (by decide +kernel)) ggX11_told_X11_pegOf
set_option maxRecDepth 100000 in
theorem ggX11_told_X11_holderOf : GoodIn wsX11_told wsX11_holderOf := goodIn_sub (sub_c (nq_m (n := 25) rfl) (sub_c (nq_m (n := 12) rfl) (sub_c (nq_m (n := 6) rfl) (sub_c (nq_m (n := 42) rfl) (sub_c (nq_m (n := 43) rfl) (sub_c (nq_m (n := 44) rfl) (sub_c (nq_m (n := 45) rfl) (sub_c (nq_m (n := 46) rfl) (sub_c (nq_m (n := 47) rfl) (sub_c (nq_m (n := 48) rfl) (sub_c (nq_m (n := 49) rfl) (sub_c (nq_m (n := 50) rfl) (sub_c (nq_m (n := 51) rfl) (sub_c (nq_m (n := 52) rfl) (sub_c (nq_m (n := 53) rfl) (sub_c (nq_m (n := 54) rfl) (sub_c (nq_m (n := 55) rfl) (sub_c (nq_m (n := 56) rfl) (sub_c (nq_m (n := 57) rfl) (sub_c (nq_m (n := 58) rfl) (sub_c (nq_m (n := 59) rfl) (sub_c (nq_m (n := 60) rfl) (sub_c (nq_m (n := 61) rfl) (sub_c (nq_m (n := 62) rfl) (sub_c (nq_m (n := 63) rfl) (sub_c (nq_m (n := 64) rfl) (sub_c (nq_m (n := 65) rfl) (sub_c (nq_m (n := 66) rfl) (sub_c (nq_m (n := 67) rfl) (sub_c (nq_m (n := 68) rfl) (sub_c (nq_m (n := 69) rfl) (sub_c (nq_m (n := 70) rfl) (sub_c (nq_m (n := 71) rfl) (sub_c (nq_m (n := 72) rfl) (sub_c (nq_m (n := 73) rfl) (sub_c (nq_m (n := 74) rfl) (sub_c (nq_m (n := 75) rfl) (sub_c (nq_m (n := 76) rfl) (sub_c (nq_m (n := 77) rfl) (sub_c (nq_m (n := 78) rfl) (sub_c (nq_m (n := 79) rfl) (sub_c (nq_m (n := 80) rfl) (sub_c (nq_m (n := 81) rfl) (sub_c (nq_m (n := 82) rfl) (sub_c (nq_m (n := 83) rfl) (sub_c (nq_m (n := 84) rfl) (sub_c (nq_m (n := 85) rfl) (sub_c (nq_m (n := 86) rfl) (sub_c (nq_m (n := 87) rfl) (sub_c (nq_m (n := 88) rfl) (sub_c (nq_m (n := 89) rfl) (sub_c (nq_m (n := 90) rfl) (sub_c (nq_m (n := 91) rfl) (sub_c (nq_m (n := 92) rfl) (sub_c (nq_m (n := 93) rfl) (sub_c (nq_m (n := 94) rfl) (sub_c (nq_m (n := 95) rfl) (sub_c (nq_m (n := 96) rfl) (sub_c (nq_m (n := 97) rfl) (sub_c (nq_m (n := 98) rfl) (sub_c (nq_m (n := 99) rfl) sub_n))))))))))))))))))))))))))))))))))))))))))))))))))))))))))))) (by decide +kernel)
set_option maxRecDepth 100000 in
theorem gX11_told_X11_holderOf : GoodIn wsX11_told (wsV RX11 261 RX11 yX11_holderOf wsX11_holderOf) := goodIn_app (goodIn_sub (sub_c (nq_m (n := 22) rfl) (sub_c (nq_m (n := 23) rfl) (sub_c (nq_m (n := 24) rfl) (sub_c (nq_m (n := 10) rfl) sub_n)))) (by decide +kernel)) ggX11_told_X11_holderOf
set_option maxRecDepth 100000 in
theorem ggX11_told_X11_expected : GoodIn wsX11_told wsX11_expected := goodIn_sub (sub_c (nq_m (n := 29) rfl) (sub_c (nq_m (n := 30) rfl) (sub_c (nq_m (n := 31) rfl) (sub_c (nq_m (n := 1) rfl) (sub_c (nq_m (n := 32) rfl) (sub_c (nq_m (n := 33) rfl) (sub_c (nq_m (n := 34) rfl) (sub_c (nq_m (n := 35) rfl) (sub_c (nq_m (n := 36) rfl) (sub_c (nq_m (n := 10) rfl) (sub_c (nq_m (n := 37) rfl) (sub_c (nq_m (n := 38) rfl) (sub_c (nq_m (n := 39) rfl) (sub_c (nq_m (n := 40) rfl) (sub_c (nq_m (n := 41) rfl) (sub_c (nq_m (n := 42) rfl) (sub_c (nq_m (n := 43) rfl) (sub_c (nq_m (n := 44) rfl) (sub_c (nq_m (n := 45) rfl) (sub_c (nq_m (n := 46) rfl) (sub_c (nq_m (n := 47) rfl) (sub_c (nq_m (n := 48) rfl) (sub_c (nq_m (n := 49) rfl) (sub_c (nq_m (n := 50) rfl) (sub_c (nq_m (n := 51) rfl) (sub_c (nq_m (n := 52) rfl) (sub_c (nq_m (n := 53) rfl) (sub_c (nq_m (n := 54) rfl) (sub_c (nq_m (n := 55) rfl) (sub_c (nq_m (n := 56) rfl) (sub_c (nq_m (n := 57) rfl) (sub_c (nq_m (n := 58) rfl) (sub_c (nq_m (n := 59) rfl) (sub_c (nq_m (n := 60) rfl) (sub_c (nq_m (n := 61) rfl) (sub_c (nq_m (n := 62) rfl) (sub_c (nq_m (n := 63) rfl) (sub_c (nq_m (n := 64) rfl) (sub_c (nq_m (n := 65) rfl) (sub_c (nq_m (n := 66) rfl) (sub_c (nq_m (n := 67) rfl) (sub_c (nq_m (n := 68) rfl) (sub_c (nq_m (n := 69) rfl) (sub_c (nq_m (n := 70) rfl) (sub_c (nq_m (n := 71) rfl) (sub_c (nq_m (n := 72) rfl) (sub_c (nq_m (n := 73) rfl) (sub_c (nq_m (n := 74) rfl) (sub_c (nq_m (n := 75) rfl) (sub_c (nq_m (n := 76) rfl) (sub_c (nq_m (n := 77) rfl) (sub_c (nq_m (n := 78) rfl) (sub_c (nq_m (n := 79) rfl) (sub_c (nq_m (n := 80) rfl) (sub_c (nq_m (n := 81) rfl) (sub_c (nq_m (n := 82) rfl) (sub_c (nq_m (n := 83) rfl) (sub_c (nq_m (n := 84) rfl) (sub_c (nq_m (n := 85) rfl) (sub_c (nq_m (n := 86) rfl) (sub_c (nq_m (n := 87) rfl) (sub_c (nq_m (n := 88) rfl) (sub_c (nq_m (n := 89) rfl) (sub_c (nq_m (n := 90) rfl) (sub_c (nq_m (n := 91) rfl) (sub_c (nq_m (n := 92) rfl) (sub_c (nq_m (n := 93) rfl) (sub_c (nq_m (n := 94) rfl) (sub_c (nq_m (n := 95) rfl) (sub_c (nq_m (n := 96) rfl) (sub_c (nq_m (n := 97) rfl) (sub_c (nq_m (n := 98) rfl) (sub_c (nq_m (n := 99) rfl) sub_n))))))))))))))))))))))))))))))))))))))))))))))))))))))))))))))))))))))))) (by decide +kernel)
set_option maxRecDepth 100000 in
theorem gX11_told_X11_expected : GoodIn wsX11_told (wsV RX11 264 RX11 yX11_expected wsX11_expected) := goodIn_app (goodIn_sub (sub_c (nq_m (n := 26) rfl) (sub_c (nq_m (n := 27) rfl) (sub_c (nq_m (n := 28) rfl) (sub_c (nq_m (n := 10) rfl) sub_n)))) (by decide +kernel)) ggX11_told_X11_expected
noncomputable def dX11_told_0_l : List (Nat × Instr × Nat) := [(0, .aload_n 0, 1), (1, .iload_n 1, 1), (2, .invokevirtual 255, 3), (5, .ifCond .ne 7, 3), (8, .sipush (-1001), 3), (11, .ireturn, 1), (12, .iload_n 2, 1), (13, .tableswitch 111 0 8 #[51, 58, 65, 72, 79, 86, 92, 98, 105], 51), (64, .aload_n 0, 1), (65, .getfield 44, 3), (68, .iload_n 1, 1), (69, .iaload, 1), (70, .ireturn, 1), (71, .aload_n 0, 1), (72, .getfield 47, 3), (75, .iload_n 1, 1), (76, .iaload, 1), (77, .ireturn, 1), (78, .aload_n 0, 1), (79, .getfield 50, 3), (82, .iload_n 1, 1), (83, .iaload, 1), (84, .ireturn, 1), (85, .aload_n 0, 1), (86, .getfield 53, 3), (89, .iload_n 1, 1), (90, .iaload, 1), (91, .ireturn, 1), (92, .aload_n 0, 1), (93, .getfield 56, 3), (96, .iload_n 1, 1), (97, .iaload, 1), (98, .ireturn, 1), (99, .aload_n 0, 1), (100, .iload_n 1, 1), (101, .invokevirtual 258, 3), (104, .ireturn, 1), (105, .aload_n 0, 1), (106, .iload_n 1, 1), (107, .invokevirtual 261, 3)]
set_option maxRecDepth 100000 in
theorem dX11_told_0_g : dX11_told_0_l.all (fun x => decide (decode cX11_told x.1 = .ok x.2)) = true := by decide +kernel
theorem dX11_told_0 : decode cX11_told 0 = .ok (.aload_n 0, 1) := nq_d dX11_told_0_g (n := 0) rfl
theorem dX11_told_1 : decode cX11_told 1 = .ok (.iload_n 1, 1) := nq_d dX11_told_0_g (n := 1) rfl
theorem dX11_told_2 : decode cX11_told 2 = .ok (.invokevirtual 255, 3) := nq_d dX11_told_0_g (n := 2) rfl
theorem dX11_told_5 : decode cX11_told 5 = .ok (.ifCond .ne 7, 3) := nq_d dX11_told_0_g (n := 3) rfl
theorem dX11_told_8 : decode cX11_told 8 = .ok (.sipush (-1001), 3) := nq_d dX11_told_0_g (n := 4) rfl
theorem dX11_told_11 : decode cX11_told 11 = .ok (.ireturn, 1) := nq_d dX11_told_0_g (n := 5) rfl
theorem dX11_told_12 : decode cX11_told 12 = .ok (.iload_n 2, 1) := nq_d dX11_told_0_g (n := 6) rfl
theorem dX11_told_13 : decode cX11_told 13 = .ok (.tableswitch 111 0 8 #[51, 58, 65, 72, 79, 86, 92, 98, 105], 51) := nq_d dX11_told_0_g (n := 7) rfl
theorem dX11_told_64 : decode cX11_told 64 = .ok (.aload_n 0, 1) := nq_d dX11_told_0_g (n := 8) rfl
theorem dX11_told_65 : decode cX11_told 65 = .ok (.getfield 44, 3) := nq_d dX11_told_0_g (n := 9) rfl
theorem dX11_told_68 : decode cX11_told 68 = .ok (.iload_n 1, 1) := nq_d dX11_told_0_g (n := 10) rfl
theorem dX11_told_69 : decode cX11_told 69 = .ok (.iaload, 1) := nq_d dX11_told_0_g (n := 11) rfl
theorem dX11_told_70 : decode cX11_told 70 = .ok (.ireturn, 1) := nq_d dX11_told_0_g (n := 12) rfl
theorem dX11_told_71 : decode cX11_told 71 = .ok (.aload_n 0, 1) := nq_d dX11_told_0_g (n := 13) rfl
theorem dX11_told_72 : decode cX11_told 72 = .ok (.getfield 47, 3) := nq_d dX11_told_0_g (n := 14) rfl
theorem dX11_told_75 : decode cX11_told 75 = .ok (.iload_n 1, 1) := nq_d dX11_told_0_g (n := 15) rfl
theorem dX11_told_76 : decode cX11_told 76 = .ok (.iaload, 1) := nq_d dX11_told_0_g (n := 16) rfl
theorem dX11_told_77 : decode cX11_told 77 = .ok (.ireturn, 1) := nq_d dX11_told_0_g (n := 17) rfl
theorem dX11_told_78 : decode cX11_told 78 = .ok (.aload_n 0, 1) := nq_d dX11_told_0_g (n := 18) rfl
theorem dX11_told_79 : decode cX11_told 79 = .ok (.getfield 50, 3) := nq_d dX11_told_0_g (n := 19) rfl
theorem dX11_told_82 : decode cX11_told 82 = .ok (.iload_n 1, 1) := nq_d dX11_told_0_g (n := 20) rfl
theorem dX11_told_83 : decode cX11_told 83 = .ok (.iaload, 1) := nq_d dX11_told_0_g (n := 21) rfl
theorem dX11_told_84 : decode cX11_told 84 = .ok (.ireturn, 1) := nq_d dX11_told_0_g (n := 22) rfl
theorem dX11_told_85 : decode cX11_told 85 = .ok (.aload_n 0, 1) := nq_d dX11_told_0_g (n := 23) rfl
theorem dX11_told_86 : decode cX11_told 86 = .ok (.getfield 53, 3) := nq_d dX11_told_0_g (n := 24) rfl
theorem dX11_told_89 : decode cX11_told 89 = .ok (.iload_n 1, 1) := nq_d dX11_told_0_g (n := 25) rfl
theorem dX11_told_90 : decode cX11_told 90 = .ok (.iaload, 1) := nq_d dX11_told_0_g (n := 26) rfl
theorem dX11_told_91 : decode cX11_told 91 = .ok (.ireturn, 1) := nq_d dX11_told_0_g (n := 27) rfl
theorem dX11_told_92 : decode cX11_told 92 = .ok (.aload_n 0, 1) := nq_d dX11_told_0_g (n := 28) rfl
theorem dX11_told_93 : decode cX11_told 93 = .ok (.getfield 56, 3) := nq_d dX11_told_0_g (n := 29) rfl
theorem dX11_told_96 : decode cX11_told 96 = .ok (.iload_n 1, 1) := nq_d dX11_told_0_g (n := 30) rfl
theorem dX11_told_97 : decode cX11_told 97 = .ok (.iaload, 1) := nq_d dX11_told_0_g (n := 31) rfl
theorem dX11_told_98 : decode cX11_told 98 = .ok (.ireturn, 1) := nq_d dX11_told_0_g (n := 32) rfl
theorem dX11_told_99 : decode cX11_told 99 = .ok (.aload_n 0, 1) := nq_d dX11_told_0_g (n := 33) rfl
theorem dX11_told_100 : decode cX11_told 100 = .ok (.iload_n 1, 1) := nq_d dX11_told_0_g (n := 34) rfl
theorem dX11_told_101 : decode cX11_told 101 = .ok (.invokevirtual 258, 3) := nq_d dX11_told_0_g (n := 35) rfl
theorem dX11_told_104 : decode cX11_told 104 = .ok (.ireturn, 1) := nq_d dX11_told_0_g (n := 36) rfl
theorem dX11_told_105 : decode cX11_told 105 = .ok (.aload_n 0, 1) := nq_d dX11_told_0_g (n := 37) rfl
theorem dX11_told_106 : decode cX11_told 106 = .ok (.iload_n 1, 1) := nq_d dX11_told_0_g (n := 38) rfl
theorem dX11_told_107 : decode cX11_told 107 = .ok (.invokevirtual 261, 3) := nq_d dX11_told_0_g (n := 39) rfl
noncomputable def dX11_told_110_l : List (Nat × Instr × Nat) := [(110, .ireturn, 1), (111, .aload_n 0, 1), (112, .getfield 59, 3), (115, .iload_n 1, 1), (116, .iaload, 1), (117, .ireturn, 1), (118, .aload_n 0, 1), (119, .iload_n 1, 1), (120, .invokevirtual 264, 3), (123, .ireturn, 1), (124, .sipush (-1002), 3), (127, .ireturn, 1)]
set_option maxRecDepth 100000 in
theorem dX11_told_110_g : dX11_told_110_l.all (fun x => decide (decode cX11_told x.1 = .ok x.2)) = true := by decide +kernel
theorem dX11_told_110 : decode cX11_told 110 = .ok (.ireturn, 1) := nq_d dX11_told_110_g (n := 0) rfl
theorem dX11_told_111 : decode cX11_told 111 = .ok (.aload_n 0, 1) := nq_d dX11_told_110_g (n := 1) rfl
theorem dX11_told_112 : decode cX11_told 112 = .ok (.getfield 59, 3) := nq_d dX11_told_110_g (n := 2) rfl
theorem dX11_told_115 : decode cX11_told 115 = .ok (.iload_n 1, 1) := nq_d dX11_told_110_g (n := 3) rfl
theorem dX11_told_116 : decode cX11_told 116 = .ok (.iaload, 1) := nq_d dX11_told_110_g (n := 4) rfl
theorem dX11_told_117 : decode cX11_told 117 = .ok (.ireturn, 1) := nq_d dX11_told_110_g (n := 5) rfl
theorem dX11_told_118 : decode cX11_told 118 = .ok (.aload_n 0, 1) := nq_d dX11_told_110_g (n := 6) rfl
theorem dX11_told_119 : decode cX11_told 119 = .ok (.iload_n 1, 1) := nq_d dX11_told_110_g (n := 7) rfl
theorem dX11_told_120 : decode cX11_told 120 = .ok (.invokevirtual 264, 3) := nq_d dX11_told_110_g (n := 8) rfl
theorem dX11_told_123 : decode cX11_told 123 = .ok (.ireturn, 1) := nq_d dX11_told_110_g (n := 9) rfl
theorem dX11_told_124 : decode cX11_told 124 = .ok (.sipush (-1002), 3) := nq_d dX11_told_110_g (n := 10) rfl
theorem dX11_told_127 : decode cX11_told 127 = .ok (.ireturn, 1) := nq_d dX11_told_110_g (n := 11) rfl
noncomputable def dX11_nextPeg_0_l : List (Nat × Instr × Nat) := [(0, .iconst (-1), 1), (1, .istore_n 2, 1), (2, .aload_n 0, 1), (3, .getfield 221, 3), (6, .iconst 1, 1), (7, .isub, 1), (8, .istore_n 3, 1), (9, .iload_n 3, 1), (10, .ifCond .lt 65, 3), (13, .aload_n 0, 1), (14, .getfield 71, 3), (17, .iload_n 3, 1), (18, .baload, 1), (19, .ifCond .ne 17, 3), (22, .aload_n 0, 1), (23, .getfield 7, 3), (26, .iload_n 3, 1), (27, .iaload, 1), (28, .iload_n 1, 1), (29, .if_icmp .ne 7, 3), (32, .iconst 1, 1), (33, .goto 4, 3), (36, .iconst 0, 1), (37, .istore 4, 2), (39, .iload 4, 2), (41, .ifCond .eq 26, 3), (44, .iload_n 2, 1), (45, .ifCond .lt 18, 3), (48, .aload_n 0, 1), (49, .getfield 13, 3), (52, .iload_n 3, 1), (53, .iaload, 1), (54, .aload_n 0, 1), (55, .getfield 13, 3), (58, .iload_n 2, 1), (59, .iaload, 1), (60, .if_icmp .gt 7, 3), (63, .iload_n 3, 1), (64, .goto 4, 3), (67, .iload_n 2, 1)]
set_option maxRecDepth 100000 in
theorem dX11_nextPeg_0_g : dX11_nextPeg_0_l.all (fun x => decide (decode cX11_nextPeg x.1 = .ok x.2)) = true := by decide +kernel
theorem dX11_nextPeg_0 : decode cX11_nextPeg 0 = .ok (.iconst (-1), 1) := nq_d dX11_nextPeg_0_g (n := 0) rfl
theorem dX11_nextPeg_1 : decode cX11_nextPeg 1 = .ok (.istore_n 2, 1) := nq_d dX11_nextPeg_0_g (n := 1) rfl
theorem dX11_nextPeg_2 : decode cX11_nextPeg 2 = .ok (.aload_n 0, 1) := nq_d dX11_nextPeg_0_g (n := 2) rfl
theorem dX11_nextPeg_3 : decode cX11_nextPeg 3 = .ok (.getfield 221, 3) := nq_d dX11_nextPeg_0_g (n := 3) rfl
theorem dX11_nextPeg_6 : decode cX11_nextPeg 6 = .ok (.iconst 1, 1) := nq_d dX11_nextPeg_0_g (n := 4) rfl
theorem dX11_nextPeg_7 : decode cX11_nextPeg 7 = .ok (.isub, 1) := nq_d dX11_nextPeg_0_g (n := 5) rfl
theorem dX11_nextPeg_8 : decode cX11_nextPeg 8 = .ok (.istore_n 3, 1) := nq_d dX11_nextPeg_0_g (n := 6) rfl
theorem dX11_nextPeg_9 : decode cX11_nextPeg 9 = .ok (.iload_n 3, 1) := nq_d dX11_nextPeg_0_g (n := 7) rfl
theorem dX11_nextPeg_10 : decode cX11_nextPeg 10 = .ok (.ifCond .lt 65, 3) := nq_d dX11_nextPeg_0_g (n := 8) rfl
theorem dX11_nextPeg_13 : decode cX11_nextPeg 13 = .ok (.aload_n 0, 1) := nq_d dX11_nextPeg_0_g (n := 9) rfl
theorem dX11_nextPeg_14 : decode cX11_nextPeg 14 = .ok (.getfield 71, 3) := nq_d dX11_nextPeg_0_g (n := 10) rfl
theorem dX11_nextPeg_17 : decode cX11_nextPeg 17 = .ok (.iload_n 3, 1) := nq_d dX11_nextPeg_0_g (n := 11) rfl
theorem dX11_nextPeg_18 : decode cX11_nextPeg 18 = .ok (.baload, 1) := nq_d dX11_nextPeg_0_g (n := 12) rfl
theorem dX11_nextPeg_19 : decode cX11_nextPeg 19 = .ok (.ifCond .ne 17, 3) := nq_d dX11_nextPeg_0_g (n := 13) rfl
theorem dX11_nextPeg_22 : decode cX11_nextPeg 22 = .ok (.aload_n 0, 1) := nq_d dX11_nextPeg_0_g (n := 14) rfl
theorem dX11_nextPeg_23 : decode cX11_nextPeg 23 = .ok (.getfield 7, 3) := nq_d dX11_nextPeg_0_g (n := 15) rfl
theorem dX11_nextPeg_26 : decode cX11_nextPeg 26 = .ok (.iload_n 3, 1) := nq_d dX11_nextPeg_0_g (n := 16) rfl
theorem dX11_nextPeg_27 : decode cX11_nextPeg 27 = .ok (.iaload, 1) := nq_d dX11_nextPeg_0_g (n := 17) rfl
theorem dX11_nextPeg_28 : decode cX11_nextPeg 28 = .ok (.iload_n 1, 1) := nq_d dX11_nextPeg_0_g (n := 18) rfl
theorem dX11_nextPeg_29 : decode cX11_nextPeg 29 = .ok (.if_icmp .ne 7, 3) := nq_d dX11_nextPeg_0_g (n := 19) rfl
theorem dX11_nextPeg_32 : decode cX11_nextPeg 32 = .ok (.iconst 1, 1) := nq_d dX11_nextPeg_0_g (n := 20) rfl
theorem dX11_nextPeg_33 : decode cX11_nextPeg 33 = .ok (.goto 4, 3) := nq_d dX11_nextPeg_0_g (n := 21) rfl
theorem dX11_nextPeg_36 : decode cX11_nextPeg 36 = .ok (.iconst 0, 1) := nq_d dX11_nextPeg_0_g (n := 22) rfl
theorem dX11_nextPeg_37 : decode cX11_nextPeg 37 = .ok (.istore 4, 2) := nq_d dX11_nextPeg_0_g (n := 23) rfl
theorem dX11_nextPeg_39 : decode cX11_nextPeg 39 = .ok (.iload 4, 2) := nq_d dX11_nextPeg_0_g (n := 24) rfl
theorem dX11_nextPeg_41 : decode cX11_nextPeg 41 = .ok (.ifCond .eq 26, 3) := nq_d dX11_nextPeg_0_g (n := 25) rfl
theorem dX11_nextPeg_44 : decode cX11_nextPeg 44 = .ok (.iload_n 2, 1) := nq_d dX11_nextPeg_0_g (n := 26) rfl
theorem dX11_nextPeg_45 : decode cX11_nextPeg 45 = .ok (.ifCond .lt 18, 3) := nq_d dX11_nextPeg_0_g (n := 27) rfl
theorem dX11_nextPeg_48 : decode cX11_nextPeg 48 = .ok (.aload_n 0, 1) := nq_d dX11_nextPeg_0_g (n := 28) rfl
theorem dX11_nextPeg_49 : decode cX11_nextPeg 49 = .ok (.getfield 13, 3) := nq_d dX11_nextPeg_0_g (n := 29) rfl
theorem dX11_nextPeg_52 : decode cX11_nextPeg 52 = .ok (.iload_n 3, 1) := nq_d dX11_nextPeg_0_g (n := 30) rfl
theorem dX11_nextPeg_53 : decode cX11_nextPeg 53 = .ok (.iaload, 1) := nq_d dX11_nextPeg_0_g (n := 31) rfl
theorem dX11_nextPeg_54 : decode cX11_nextPeg 54 = .ok (.aload_n 0, 1) := nq_d dX11_nextPeg_0_g (n := 32) rfl
theorem dX11_nextPeg_55 : decode cX11_nextPeg 55 = .ok (.getfield 13, 3) := nq_d dX11_nextPeg_0_g (n := 33) rfl
theorem dX11_nextPeg_58 : decode cX11_nextPeg 58 = .ok (.iload_n 2, 1) := nq_d dX11_nextPeg_0_g (n := 34) rfl
theorem dX11_nextPeg_59 : decode cX11_nextPeg 59 = .ok (.iaload, 1) := nq_d dX11_nextPeg_0_g (n := 35) rfl
theorem dX11_nextPeg_60 : decode cX11_nextPeg 60 = .ok (.if_icmp .gt 7, 3) := nq_d dX11_nextPeg_0_g (n := 36) rfl
theorem dX11_nextPeg_63 : decode cX11_nextPeg 63 = .ok (.iload_n 3, 1) := nq_d dX11_nextPeg_0_g (n := 37) rfl
theorem dX11_nextPeg_64 : decode cX11_nextPeg 64 = .ok (.goto 4, 3) := nq_d dX11_nextPeg_0_g (n := 38) rfl
theorem dX11_nextPeg_67 : decode cX11_nextPeg 67 = .ok (.iload_n 2, 1) := nq_d dX11_nextPeg_0_g (n := 39) rfl
noncomputable def dX11_nextPeg_68_l : List (Nat × Instr × Nat) := [(68, .istore_n 2, 1), (69, .iinc 3 (-1), 3), (72, .goto (-63), 3), (75, .iload_n 2, 1), (76, .ireturn, 1)]
set_option maxRecDepth 100000 in
theorem dX11_nextPeg_68_g : dX11_nextPeg_68_l.all (fun x => decide (decode cX11_nextPeg x.1 = .ok x.2)) = true := by decide +kernel
theorem dX11_nextPeg_68 : decode cX11_nextPeg 68 = .ok (.istore_n 2, 1) := nq_d dX11_nextPeg_68_g (n := 0) rfl
theorem dX11_nextPeg_69 : decode cX11_nextPeg 69 = .ok (.iinc 3 (-1), 3) := nq_d dX11_nextPeg_68_g (n := 1) rfl
theorem dX11_nextPeg_72 : decode cX11_nextPeg 72 = .ok (.goto (-63), 3) := nq_d dX11_nextPeg_68_g (n := 2) rfl
theorem dX11_nextPeg_75 : decode cX11_nextPeg 75 = .ok (.iload_n 2, 1) := nq_d dX11_nextPeg_68_g (n := 3) rfl
theorem dX11_nextPeg_76 : decode cX11_nextPeg 76 = .ok (.ireturn, 1) := nq_d dX11_nextPeg_68_g (n := 4) rfl
set_option maxRecDepth 100000 in
theorem ggX11_nextGuest_X11_expected : GoodIn wsX11_nextGuest wsX11_expected := goodIn_sub (sub_c (nq_m (n := 7) rfl) (sub_c (nq_m (n := 8) rfl) (sub_c (nq_m (n := 9) rfl) (sub_c (nq_m (n := 10) rfl) (sub_c (nq_m (n := 11) rfl) (sub_c (nq_m (n := 12) rfl) (sub_c (nq_m (n := 13) rfl) (sub_c (nq_m (n := 14) rfl) (sub_c (nq_m (n := 15) rfl) (sub_c (nq_m (n := 6) rfl) (sub_c (nq_m (n := 16) rfl) (sub_c (nq_m (n := 17) rfl) (sub_c (nq_m (n := 18) rfl) (sub_c (nq_m (n := 19) rfl) (sub_c (nq_m (n := 20) rfl) (sub_c (nq_m (n := 21) rfl) (sub_c (nq_m (n := 22) rfl) (sub_c (nq_m (n := 23) rfl) (sub_c (nq_m (n := 24) rfl) (sub_c (nq_m (n := 25) rfl) (sub_c (nq_m (n := 26) rfl) (sub_c (nq_m (n := 27) rfl) (sub_c (nq_m (n := 28) rfl) (sub_c (nq_m (n := 29) rfl) (sub_c (nq_m (n := 30) rfl) (sub_c (nq_m (n := 31) rfl) (sub_c (nq_m (n := 32) rfl) (sub_c (nq_m (n := 33) rfl) (sub_c (nq_m (n := 34) rfl) (sub_c (nq_m (n := 35) rfl) (sub_c (nq_m (n := 36) rfl) (sub_c (nq_m (n := 37) rfl) (sub_c (nq_m (n := 38) rfl) (sub_c (nq_m (n := 39) rfl) (sub_c (nq_m (n := 40) rfl) (sub_c (nq_m (n := 41) rfl) (sub_c (nq_m (n := 42) rfl) (sub_c (nq_m (n := 43) rfl) (sub_c (nq_m (n := 44) rfl) (sub_c (nq_m (n := 45) rfl) (sub_c (nq_m (n := 46) rfl) (sub_c (nq_m (n := 47) rfl) (sub_c (nq_m (n := 48) rfl) (sub_c (nq_m (n := 49) rfl) (sub_c (nq_m (n := 50) rfl) (sub_c (nq_m (n := 51) rfl) (sub_c (nq_m (n := 52) rfl) (sub_c (nq_m (n := 53) rfl) (sub_c (nq_m (n := 54) rfl) (sub_c (nq_m (n := 55) rfl) (sub_c (nq_m (n := 56) rfl) (sub_c (nq_m (n := 57) rfl) (sub_c (nq_m (n := 58) rfl) (sub_c (nq_m (n := 59) rfl) (sub_c (nq_m (n := 60) rfl) (sub_c (nq_m (n := 61) rfl) (sub_c (nq_m (n := 62) rfl) (sub_c (nq_m (n := 63) rfl) (sub_c (nq_m (n := 64) rfl) (sub_c (nq_m (n := 65) rfl) (sub_c (nq_m (n := 66) rfl) (sub_c (nq_m (n := 67) rfl) (sub_c (nq_m (n := 68) rfl) (sub_c (nq_m (n := 69) rfl) (sub_c (nq_m (n := 70) rfl) (sub_c (nq_m (n := 71) rfl) (sub_c (nq_m (n := 72) rfl) (sub_c (nq_m (n := 73) rfl) (sub_c (nq_m (n := 74) rfl) (sub_c (nq_m (n := 75) rfl) (sub_c (nq_m (n := 76) rfl) (sub_c (nq_m (n := 77) rfl) (sub_c (nq_m (n := 78) rfl) sub_n))))))))))))))))))))))))))))))))))))))))))))))))))))))))))))))))))))))))) (by decide +kernel)
set_option maxRecDepth 100000 in
theorem gX11_nextGuest_X11_expected : GoodIn wsX11_nextGuest (wsV RX11 264 RX11 yX11_expected wsX11_expected) := goodIn_app (goodIn_sub (sub_c (nq_m (n := 3) rfl) (sub_c (nq_m (n := 4) rfl) (sub_c (nq_m (n := 5) rfl) (sub_c (nq_m (n := 6) rfl) sub_n)))) (by decide +kernel)) ggX11_nextGuest_X11_expected
noncomputable def dX11_nextGuest_0_l : List (Nat × Instr × Nat) := [(0, .iconst (-1), 1), (1, .istore_n 2, 1), (2, .iconst 0, 1), (3, .istore_n 3, 1), (4, .iload_n 3, 1), (5, .aload_n 0, 1), (6, .getfield 227, 3), (9, .if_icmp .ge 57, 3), (12, .aload_n 0, 1), (13, .getfield 68, 3), (16, .iload_n 3, 1), (17, .iaload, 1), (18, .ifCond .ge 7, 3), (21, .iconst 1, 1), (22, .goto 4, 3), (25, .iconst 0, 1), (26, .istore 4, 2), (28, .iload 4, 2), (30, .ifCond .eq 28, 3), (33, .iload_n 2, 1), (34, .ifCond .lt 20, 3), (37, .iload_n 1, 1), (38, .ifCond .ne 20, 3), (41, .aload_n 0, 1), (42, .iload_n 3, 1), (43, .invokevirtual 264, 3), (46, .aload_n 0, 1), (47, .iload_n 2, 1), (48, .invokevirtual 264, 3), (51, .if_icmp .le 7, 3), (54, .iload_n 3, 1), (55, .goto 4, 3), (58, .iload_n 2, 1), (59, .istore_n 2, 1), (60, .iinc 3 1, 3), (63, .goto (-59), 3), (66, .iload_n 2, 1), (67, .ireturn, 1)]
set_option maxRecDepth 100000 in
theorem dX11_nextGuest_0_g : dX11_nextGuest_0_l.all (fun x => decide (decode cX11_nextGuest x.1 = .ok x.2)) = true := by decide +kernel
theorem dX11_nextGuest_0 : decode cX11_nextGuest 0 = .ok (.iconst (-1), 1) := nq_d dX11_nextGuest_0_g (n := 0) rfl
theorem dX11_nextGuest_1 : decode cX11_nextGuest 1 = .ok (.istore_n 2, 1) := nq_d dX11_nextGuest_0_g (n := 1) rfl
theorem dX11_nextGuest_2 : decode cX11_nextGuest 2 = .ok (.iconst 0, 1) := nq_d dX11_nextGuest_0_g (n := 2) rfl
theorem dX11_nextGuest_3 : decode cX11_nextGuest 3 = .ok (.istore_n 3, 1) := nq_d dX11_nextGuest_0_g (n := 3) rfl
theorem dX11_nextGuest_4 : decode cX11_nextGuest 4 = .ok (.iload_n 3, 1) := nq_d dX11_nextGuest_0_g (n := 4) rfl
theorem dX11_nextGuest_5 : decode cX11_nextGuest 5 = .ok (.aload_n 0, 1) := nq_d dX11_nextGuest_0_g (n := 5) rfl
theorem dX11_nextGuest_6 : decode cX11_nextGuest 6 = .ok (.getfield 227, 3) := nq_d dX11_nextGuest_0_g (n := 6) rfl
theorem dX11_nextGuest_9 : decode cX11_nextGuest 9 = .ok (.if_icmp .ge 57, 3) := nq_d dX11_nextGuest_0_g (n := 7) rfl
theorem dX11_nextGuest_12 : decode cX11_nextGuest 12 = .ok (.aload_n 0, 1) := nq_d dX11_nextGuest_0_g (n := 8) rfl
theorem dX11_nextGuest_13 : decode cX11_nextGuest 13 = .ok (.getfield 68, 3) := nq_d dX11_nextGuest_0_g (n := 9) rfl
theorem dX11_nextGuest_16 : decode cX11_nextGuest 16 = .ok (.iload_n 3, 1) := nq_d dX11_nextGuest_0_g (n := 10) rfl
theorem dX11_nextGuest_17 : decode cX11_nextGuest 17 = .ok (.iaload, 1) := nq_d dX11_nextGuest_0_g (n := 11) rfl
theorem dX11_nextGuest_18 : decode cX11_nextGuest 18 = .ok (.ifCond .ge 7, 3) := nq_d dX11_nextGuest_0_g (n := 12) rfl
theorem dX11_nextGuest_21 : decode cX11_nextGuest 21 = .ok (.iconst 1, 1) := nq_d dX11_nextGuest_0_g (n := 13) rfl
theorem dX11_nextGuest_22 : decode cX11_nextGuest 22 = .ok (.goto 4, 3) := nq_d dX11_nextGuest_0_g (n := 14) rfl
theorem dX11_nextGuest_25 : decode cX11_nextGuest 25 = .ok (.iconst 0, 1) := nq_d dX11_nextGuest_0_g (n := 15) rfl
theorem dX11_nextGuest_26 : decode cX11_nextGuest 26 = .ok (.istore 4, 2) := nq_d dX11_nextGuest_0_g (n := 16) rfl
theorem dX11_nextGuest_28 : decode cX11_nextGuest 28 = .ok (.iload 4, 2) := nq_d dX11_nextGuest_0_g (n := 17) rfl
theorem dX11_nextGuest_30 : decode cX11_nextGuest 30 = .ok (.ifCond .eq 28, 3) := nq_d dX11_nextGuest_0_g (n := 18) rfl
theorem dX11_nextGuest_33 : decode cX11_nextGuest 33 = .ok (.iload_n 2, 1) := nq_d dX11_nextGuest_0_g (n := 19) rfl
theorem dX11_nextGuest_34 : decode cX11_nextGuest 34 = .ok (.ifCond .lt 20, 3) := nq_d dX11_nextGuest_0_g (n := 20) rfl
theorem dX11_nextGuest_37 : decode cX11_nextGuest 37 = .ok (.iload_n 1, 1) := nq_d dX11_nextGuest_0_g (n := 21) rfl
theorem dX11_nextGuest_38 : decode cX11_nextGuest 38 = .ok (.ifCond .ne 20, 3) := nq_d dX11_nextGuest_0_g (n := 22) rfl
theorem dX11_nextGuest_41 : decode cX11_nextGuest 41 = .ok (.aload_n 0, 1) := nq_d dX11_nextGuest_0_g (n := 23) rfl
theorem dX11_nextGuest_42 : decode cX11_nextGuest 42 = .ok (.iload_n 3, 1) := nq_d dX11_nextGuest_0_g (n := 24) rfl
theorem dX11_nextGuest_43 : decode cX11_nextGuest 43 = .ok (.invokevirtual 264, 3) := nq_d dX11_nextGuest_0_g (n := 25) rfl
theorem dX11_nextGuest_46 : decode cX11_nextGuest 46 = .ok (.aload_n 0, 1) := nq_d dX11_nextGuest_0_g (n := 26) rfl
theorem dX11_nextGuest_47 : decode cX11_nextGuest 47 = .ok (.iload_n 2, 1) := nq_d dX11_nextGuest_0_g (n := 27) rfl
theorem dX11_nextGuest_48 : decode cX11_nextGuest 48 = .ok (.invokevirtual 264, 3) := nq_d dX11_nextGuest_0_g (n := 28) rfl
theorem dX11_nextGuest_51 : decode cX11_nextGuest 51 = .ok (.if_icmp .le 7, 3) := nq_d dX11_nextGuest_0_g (n := 29) rfl
theorem dX11_nextGuest_54 : decode cX11_nextGuest 54 = .ok (.iload_n 3, 1) := nq_d dX11_nextGuest_0_g (n := 30) rfl
theorem dX11_nextGuest_55 : decode cX11_nextGuest 55 = .ok (.goto 4, 3) := nq_d dX11_nextGuest_0_g (n := 31) rfl
theorem dX11_nextGuest_58 : decode cX11_nextGuest 58 = .ok (.iload_n 2, 1) := nq_d dX11_nextGuest_0_g (n := 32) rfl
theorem dX11_nextGuest_59 : decode cX11_nextGuest 59 = .ok (.istore_n 2, 1) := nq_d dX11_nextGuest_0_g (n := 33) rfl
theorem dX11_nextGuest_60 : decode cX11_nextGuest 60 = .ok (.iinc 3 1, 3) := nq_d dX11_nextGuest_0_g (n := 34) rfl
theorem dX11_nextGuest_63 : decode cX11_nextGuest 63 = .ok (.goto (-59), 3) := nq_d dX11_nextGuest_0_g (n := 35) rfl
theorem dX11_nextGuest_66 : decode cX11_nextGuest 66 = .ok (.iload_n 2, 1) := nq_d dX11_nextGuest_0_g (n := 36) rfl
theorem dX11_nextGuest_67 : decode cX11_nextGuest 67 = .ok (.ireturn, 1) := nq_d dX11_nextGuest_0_g (n := 37) rfl
set_option maxRecDepth 100000 in
theorem ggX11_findPlan_X11_nextGuest : GoodIn wsX11_findPlan wsX11_nextGuest := goodIn_sub (sub_c (nq_m (n := 9) rfl) (sub_c (nq_m (n := 1) rfl) (sub_c (nq_m (n := 2) rfl) (sub_c (nq_m (n := 10) rfl) (sub_c (nq_m (n := 11) rfl) (sub_c (nq_m (n := 12) rfl) (sub_c (nq_m (n := 8) rfl) (sub_c (nq_m (n := 13) rfl) (sub_c (nq_m (n := 14) rfl) (sub_c (nq_m (n := 15) rfl) (sub_c (nq_m (n := 16) rfl) (sub_c (nq_m (n := 17) rfl) (sub_c (nq_m (n := 18) rfl) (sub_c (nq_m (n := 19) rfl) (sub_c (nq_m (n := 20) rfl) (sub_c (nq_m (n := 21) rfl) (sub_c (nq_m (n := 22) rfl) (sub_c (nq_m (n := 23) rfl) (sub_c (nq_m (n := 24) rfl) (sub_c (nq_m (n := 25) rfl) (sub_c (nq_m (n := 26) rfl) (sub_c (nq_m (n := 34) rfl) (sub_c (nq_m (n := 35) rfl) (sub_c (nq_m (n := 36) rfl) (sub_c (nq_m (n := 37) rfl) (sub_c (nq_m (n := 38) rfl) (sub_c (nq_m (n := 39) rfl) (sub_c (nq_m (n := 40) rfl) (sub_c (nq_m (n := 41) rfl) (sub_c (nq_m (n := 42) rfl) (sub_c (nq_m (n := 43) rfl) (sub_c (nq_m (n := 44) rfl) (sub_c (nq_m (n := 45) rfl) (sub_c (nq_m (n := 46) rfl) (sub_c (nq_m (n := 47) rfl) (sub_c (nq_m (n := 48) rfl) (sub_c (nq_m (n := 49) rfl) (sub_c (nq_m (n := 50) rfl) (sub_c (nq_m (n := 51) rfl) (sub_c (nq_m (n := 52) rfl) (sub_c (nq_m (n := 53) rfl) (sub_c (nq_m (n := 54) rfl) (sub_c (nq_m (n := 55) rfl) (sub_c (nq_m (n := 56) rfl) (sub_c (nq_m (n := 57) rfl) (sub_c (nq_m (n := 58) rfl) (sub_c (nq_m (n := 59) rfl) (sub_c (nq_m (n := 60) rfl) (sub_c (nq_m (n := 61) rfl) (sub_c (nq_m (n := 62) rfl) (sub_c (nq_m (n := 63) rfl) (sub_c (nq_m (n := 64) rfl) (sub_c (nq_m (n := 65) rfl) (sub_c (nq_m (n := 66) rfl) (sub_c (nq_m (n := 67) rfl) (sub_c (nq_m (n := 68) rfl) (sub_c (nq_m (n := 69) rfl) (sub_c (nq_m (n := 70) rfl) (sub_c (nq_m (n := 71) rfl) (sub_c (nq_m (n := 72) rfl) (sub_c (nq_m (n := 73) rfl) (sub_c (nq_m (n := 74) rfl) (sub_c (nq_m (n := 75) rfl) (sub_c (nq_m (n := 76) rfl) (sub_c (nq_m (n := 77) rfl) (sub_c (nq_m (n := 78) rfl) (sub_c (nq_m (n := 79) rfl) (sub_c (nq_m (n := 80) rfl) (sub_c (nq_m (n := 81) rfl) (sub_c (nq_m (n := 82) rfl) (sub_c (nq_m (n := 83) rfl) (sub_c (nq_m (n := 84) rfl) (sub_c (nq_m (n := 85) rfl) (sub_c (nq_m (n := 86) rfl) (sub_c (nq_m (n := 87) rfl) (sub_c (nq_m (n := 88) rfl) (sub_c (nq_m (n := 89) rfl) (sub_c (nq_m (n := 90) rfl) (sub_c (nq_m (n := 91) rfl) sub_n))))))))))))))))))))))))))))))))))))))))))))))))))))))))))))))))))))))))))))))) (by decide +kernel)
set_option maxRecDepth 100000 in
theorem gX11_findPlan_X11_nextGuest : GoodIn wsX11_findPlan (wsV RX11 267 RX11 yX11_nextGuest wsX11_nextGuest) := goodIn_app (goodIn_sub (sub_c (nq_m (n := 5) rfl) (sub_c (nq_m (n := 6) rfl) (sub_c (nq_m (n := 7) rfl) (sub_c (nq_m (n := 8) rfl) sub_n)))) (by decide +kernel)) ggX11_findPlan_X11_nextGuest
set_option maxRecDepth 100000 in
theorem ggX11_findPlan_X11_nextPeg : GoodIn wsX11_findPlan wsX11_nextPeg := goodIn_sub (sub_c (nq_m (n := 30) rfl) (sub_c (nq_m (n := 31) rfl) (sub_c (nq_m (n := 3) rfl) (sub_c (nq_m (n := 32) rfl) (sub_c (nq_m (n := 33) rfl) (sub_c (nq_m (n := 34) rfl) (sub_c (nq_m (n := 35) rfl) (sub_c (nq_m (n := 36) rfl) (sub_c (nq_m (n := 37) rfl) (sub_c (nq_m (n := 38) rfl) (sub_c (nq_m (n := 39) rfl) (sub_c (nq_m (n := 40) rfl) (sub_c (nq_m (n := 41) rfl) (sub_c (nq_m (n := 42) rfl) (sub_c (nq_m (n := 43) rfl) (sub_c (nq_m (n := 44) rfl) (sub_c (nq_m (n := 45) rfl) (sub_c (nq_m (n := 46) rfl) (sub_c (nq_m (n := 47) rfl) (sub_c (nq_m (n := 48) rfl) (sub_c (nq_m (n := 49) rfl) (sub_c (nq_m (n := 50) rfl) (sub_c (nq_m (n := 51) rfl) (sub_c (nq_m (n := 52) rfl) (sub_c (nq_m (n := 53) rfl) (sub_c (nq_m (n := 54) rfl) (sub_c (nq_m (n := 55) rfl) (sub_c (nq_m (n := 56) rfl) (sub_c (nq_m (n := 57) rfl) (sub_c (nq_m (n := 58) rfl) (sub_c (nq_m (n := 59) rfl) (sub_c (nq_m (n := 60) rfl) (sub_c (nq_m (n := 61) rfl) (sub_c (nq_m (n := 62) rfl) (sub_c (nq_m (n := 63) rfl) (sub_c (nq_m (n := 64) rfl) (sub_c (nq_m (n := 65) rfl) (sub_c (nq_m (n := 66) rfl) (sub_c (nq_m (n := 67) rfl) (sub_c (nq_m (n := 68) rfl) (sub_c (nq_m (n := 69) rfl) (sub_c (nq_m (n := 70) rfl) (sub_c (nq_m (n := 71) rfl) (sub_c (nq_m (n := 72) rfl) (sub_c (nq_m (n := 73) rfl) (sub_c (nq_m (n := 74) rfl) (sub_c (nq_m (n := 75) rfl) (sub_c (nq_m (n := 76) rfl) (sub_c (nq_m (n := 77) rfl) (sub_c (nq_m (n := 78) rfl) (sub_c (nq_m (n := 79) rfl) (sub_c (nq_m (n := 80) rfl) (sub_c (nq_m (n := 81) rfl) (sub_c (nq_m (n := 82) rfl) (sub_c (nq_m (n := 83) rfl) (sub_c (nq_m (n := 84) rfl) (sub_c (nq_m (n := 85) rfl) (sub_c (nq_m (n := 86) rfl) (sub_c (nq_m (n := 87) rfl) (sub_c (nq_m (n := 88) rfl) (sub_c (nq_m (n := 89) rfl) (sub_c (nq_m (n := 90) rfl) (sub_c (nq_m (n := 91) rfl) sub_n))))))))))))))))))))))))))))))))))))))))))))))))))))))))))))))) (by decide +kernel)
set_option maxRecDepth 100000 in
theorem gX11_findPlan_X11_nextPeg : GoodIn wsX11_findPlan (wsV RX11 271 RX11 yX11_nextPeg wsX11_nextPeg) := goodIn_app (goodIn_sub (sub_c (nq_m (n := 27) rfl) (sub_c (nq_m (n := 28) rfl) (sub_c (nq_m (n := 29) rfl) (sub_c (nq_m (n := 8) rfl) sub_n)))) (by decide +kernel)) ggX11_findPlan_X11_nextPeg
noncomputable def dX11_findPlan_0_l : List (Nat × Instr × Nat) := [(0, .iconst 0, 1), (1, .istore_n 2, 1), (2, .iload_n 2, 1), (3, .aload_n 0, 1), (4, .getfield 227, 3), (7, .if_icmp .ge 16, 3), (10, .aload_n 0, 1), (11, .getfield 68, 3), (14, .iload_n 2, 1), (15, .iconst (-1), 1), (16, .iastore, 1), (17, .iinc 2 1, 3), (20, .goto (-18), 3), (23, .iconst 0, 1), (24, .istore_n 2, 1), (25, .iload_n 2, 1), (26, .bipush 24, 2), (28, .if_icmp .ge 16, 3), (31, .aload_n 0, 1), (32, .getfield 71, 3), (35, .iload_n 2, 1), (36, .iconst 0, 1), (37, .bastore, 1), (38, .iinc 2 1, 3), (41, .goto (-16), 3), (44, .iconst 0, 1), (45, .istore_n 2, 1), (46, .iload_n 2, 1), (47, .aload_n 0, 1), (48, .getfield 227, 3), (51, .if_icmp .ge 50, 3), (54, .aload_n 0, 1), (55, .iload_n 1, 1), (56, .invokevirtual 267, 3), (59, .istore_n 3, 1), (60, .aload_n 0, 1), (61, .aload_n 0, 1), (62, .getfield 47, 3), (65, .iload_n 3, 1), (66, .iaload, 1)]
set_option maxRecDepth 100000 in
theorem dX11_findPlan_0_g : dX11_findPlan_0_l.all (fun x => decide (decode cX11_findPlan x.1 = .ok x.2)) = true := by decide +kernel
theorem dX11_findPlan_0 : decode cX11_findPlan 0 = .ok (.iconst 0, 1) := nq_d dX11_findPlan_0_g (n := 0) rfl
theorem dX11_findPlan_1 : decode cX11_findPlan 1 = .ok (.istore_n 2, 1) := nq_d dX11_findPlan_0_g (n := 1) rfl
theorem dX11_findPlan_2 : decode cX11_findPlan 2 = .ok (.iload_n 2, 1) := nq_d dX11_findPlan_0_g (n := 2) rfl
theorem dX11_findPlan_3 : decode cX11_findPlan 3 = .ok (.aload_n 0, 1) := nq_d dX11_findPlan_0_g (n := 3) rfl
theorem dX11_findPlan_4 : decode cX11_findPlan 4 = .ok (.getfield 227, 3) := nq_d dX11_findPlan_0_g (n := 4) rfl
theorem dX11_findPlan_7 : decode cX11_findPlan 7 = .ok (.if_icmp .ge 16, 3) := nq_d dX11_findPlan_0_g (n := 5) rfl
theorem dX11_findPlan_10 : decode cX11_findPlan 10 = .ok (.aload_n 0, 1) := nq_d dX11_findPlan_0_g (n := 6) rfl
theorem dX11_findPlan_11 : decode cX11_findPlan 11 = .ok (.getfield 68, 3) := nq_d dX11_findPlan_0_g (n := 7) rfl
theorem dX11_findPlan_14 : decode cX11_findPlan 14 = .ok (.iload_n 2, 1) := nq_d dX11_findPlan_0_g (n := 8) rfl
theorem dX11_findPlan_15 : decode cX11_findPlan 15 = .ok (.iconst (-1), 1) := nq_d dX11_findPlan_0_g (n := 9) rfl
theorem dX11_findPlan_16 : decode cX11_findPlan 16 = .ok (.iastore, 1) := nq_d dX11_findPlan_0_g (n := 10) rfl
theorem dX11_findPlan_17 : decode cX11_findPlan 17 = .ok (.iinc 2 1, 3) := nq_d dX11_findPlan_0_g (n := 11) rfl
theorem dX11_findPlan_20 : decode cX11_findPlan 20 = .ok (.goto (-18), 3) := nq_d dX11_findPlan_0_g (n := 12) rfl
theorem dX11_findPlan_23 : decode cX11_findPlan 23 = .ok (.iconst 0, 1) := nq_d dX11_findPlan_0_g (n := 13) rfl
theorem dX11_findPlan_24 : decode cX11_findPlan 24 = .ok (.istore_n 2, 1) := nq_d dX11_findPlan_0_g (n := 14) rfl
theorem dX11_findPlan_25 : decode cX11_findPlan 25 = .ok (.iload_n 2, 1) := nq_d dX11_findPlan_0_g (n := 15) rfl
theorem dX11_findPlan_26 : decode cX11_findPlan 26 = .ok (.bipush 24, 2) := nq_d dX11_findPlan_0_g (n := 16) rfl
theorem dX11_findPlan_28 : decode cX11_findPlan 28 = .ok (.if_icmp .ge 16, 3) := nq_d dX11_findPlan_0_g (n := 17) rfl
theorem dX11_findPlan_31 : decode cX11_findPlan 31 = .ok (.aload_n 0, 1) := nq_d dX11_findPlan_0_g (n := 18) rfl
theorem dX11_findPlan_32 : decode cX11_findPlan 32 = .ok (.getfield 71, 3) := nq_d dX11_findPlan_0_g (n := 19) rfl
theorem dX11_findPlan_35 : decode cX11_findPlan 35 = .ok (.iload_n 2, 1) := nq_d dX11_findPlan_0_g (n := 20) rfl
theorem dX11_findPlan_36 : decode cX11_findPlan 36 = .ok (.iconst 0, 1) := nq_d dX11_findPlan_0_g (n := 21) rfl
theorem dX11_findPlan_37 : decode cX11_findPlan 37 = .ok (.bastore, 1) := nq_d dX11_findPlan_0_g (n := 22) rfl
theorem dX11_findPlan_38 : decode cX11_findPlan 38 = .ok (.iinc 2 1, 3) := nq_d dX11_findPlan_0_g (n := 23) rfl
theorem dX11_findPlan_41 : decode cX11_findPlan 41 = .ok (.goto (-16), 3) := nq_d dX11_findPlan_0_g (n := 24) rfl
theorem dX11_findPlan_44 : decode cX11_findPlan 44 = .ok (.iconst 0, 1) := nq_d dX11_findPlan_0_g (n := 25) rfl
theorem dX11_findPlan_45 : decode cX11_findPlan 45 = .ok (.istore_n 2, 1) := nq_d dX11_findPlan_0_g (n := 26) rfl
theorem dX11_findPlan_46 : decode cX11_findPlan 46 = .ok (.iload_n 2, 1) := nq_d dX11_findPlan_0_g (n := 27) rfl
theorem dX11_findPlan_47 : decode cX11_findPlan 47 = .ok (.aload_n 0, 1) := nq_d dX11_findPlan_0_g (n := 28) rfl
theorem dX11_findPlan_48 : decode cX11_findPlan 48 = .ok (.getfield 227, 3) := nq_d dX11_findPlan_0_g (n := 29) rfl
theorem dX11_findPlan_51 : decode cX11_findPlan 51 = .ok (.if_icmp .ge 50, 3) := nq_d dX11_findPlan_0_g (n := 30) rfl
theorem dX11_findPlan_54 : decode cX11_findPlan 54 = .ok (.aload_n 0, 1) := nq_d dX11_findPlan_0_g (n := 31) rfl
theorem dX11_findPlan_55 : decode cX11_findPlan 55 = .ok (.iload_n 1, 1) := nq_d dX11_findPlan_0_g (n := 32) rfl
theorem dX11_findPlan_56 : decode cX11_findPlan 56 = .ok (.invokevirtual 267, 3) := nq_d dX11_findPlan_0_g (n := 33) rfl
theorem dX11_findPlan_59 : decode cX11_findPlan 59 = .ok (.istore_n 3, 1) := nq_d dX11_findPlan_0_g (n := 34) rfl
theorem dX11_findPlan_60 : decode cX11_findPlan 60 = .ok (.aload_n 0, 1) := nq_d dX11_findPlan_0_g (n := 35) rfl
theorem dX11_findPlan_61 : decode cX11_findPlan 61 = .ok (.aload_n 0, 1) := nq_d dX11_findPlan_0_g (n := 36) rfl
theorem dX11_findPlan_62 : decode cX11_findPlan 62 = .ok (.getfield 47, 3) := nq_d dX11_findPlan_0_g (n := 37) rfl
theorem dX11_findPlan_65 : decode cX11_findPlan 65 = .ok (.iload_n 3, 1) := nq_d dX11_findPlan_0_g (n := 38) rfl
theorem dX11_findPlan_66 : decode cX11_findPlan 66 = .ok (.iaload, 1) := nq_d dX11_findPlan_0_g (n := 39) rfl
noncomputable def dX11_findPlan_67_l : List (Nat × Instr × Nat) := [(67, .invokevirtual 271, 3), (70, .istore 4, 2), (72, .iload 4, 2), (74, .ifCond .ge 5, 3), (77, .iconst 0, 1), (78, .ireturn, 1), (79, .aload_n 0, 1), (80, .getfield 68, 3), (83, .iload_n 3, 1), (84, .iload 4, 2), (86, .iastore, 1), (87, .aload_n 0, 1), (88, .getfield 71, 3), (91, .iload 4, 2), (93, .iconst 1, 1), (94, .bastore, 1), (95, .iinc 2 1, 3), (98, .goto (-52), 3), (101, .iconst 1, 1), (102, .ireturn, 1)]
set_option maxRecDepth 100000 in
theorem dX11_findPlan_67_g : dX11_findPlan_67_l.all (fun x => decide (decode cX11_findPlan x.1 = .ok x.2)) = true := by decide +kernel
theorem dX11_findPlan_67 : decode cX11_findPlan 67 = .ok (.invokevirtual 271, 3) := nq_d dX11_findPlan_67_g (n := 0) rfl
theorem dX11_findPlan_70 : decode cX11_findPlan 70 = .ok (.istore 4, 2) := nq_d dX11_findPlan_67_g (n := 1) rfl
theorem dX11_findPlan_72 : decode cX11_findPlan 72 = .ok (.iload 4, 2) := nq_d dX11_findPlan_67_g (n := 2) rfl
theorem dX11_findPlan_74 : decode cX11_findPlan 74 = .ok (.ifCond .ge 5, 3) := nq_d dX11_findPlan_67_g (n := 3) rfl
theorem dX11_findPlan_77 : decode cX11_findPlan 77 = .ok (.iconst 0, 1) := nq_d dX11_findPlan_67_g (n := 4) rfl
theorem dX11_findPlan_78 : decode cX11_findPlan 78 = .ok (.ireturn, 1) := nq_d dX11_findPlan_67_g (n := 5) rfl
theorem dX11_findPlan_79 : decode cX11_findPlan 79 = .ok (.aload_n 0, 1) := nq_d dX11_findPlan_67_g (n := 6) rfl
theorem dX11_findPlan_80 : decode cX11_findPlan 80 = .ok (.getfield 68, 3) := nq_d dX11_findPlan_67_g (n := 7) rfl
theorem dX11_findPlan_83 : decode cX11_findPlan 83 = .ok (.iload_n 3, 1) := nq_d dX11_findPlan_67_g (n := 8) rfl
theorem dX11_findPlan_84 : decode cX11_findPlan 84 = .ok (.iload 4, 2) := nq_d dX11_findPlan_67_g (n := 9) rfl
theorem dX11_findPlan_86 : decode cX11_findPlan 86 = .ok (.iastore, 1) := nq_d dX11_findPlan_67_g (n := 10) rfl
theorem dX11_findPlan_87 : decode cX11_findPlan 87 = .ok (.aload_n 0, 1) := nq_d dX11_findPlan_67_g (n := 11) rfl
theorem dX11_findPlan_88 : decode cX11_findPlan 88 = .ok (.getfield 71, 3) := nq_d dX11_findPlan_67_g (n := 12) rfl
theorem dX11_findPlan_91 : decode cX11_findPlan 91 = .ok (.iload 4, 2) := nq_d dX11_findPlan_67_g (n := 13) rfl
theorem dX11_findPlan_93 : decode cX11_findPlan 93 = .ok (.iconst 1, 1) := nq_d dX11_findPlan_67_g (n := 14) rfl
theorem dX11_findPlan_94 : decode cX11_findPlan 94 = .ok (.bastore, 1) := nq_d dX11_findPlan_67_g (n := 15) rfl
theorem dX11_findPlan_95 : decode cX11_findPlan 95 = .ok (.iinc 2 1, 3) := nq_d dX11_findPlan_67_g (n := 16) rfl
theorem dX11_findPlan_98 : decode cX11_findPlan 98 = .ok (.goto (-52), 3) := nq_d dX11_findPlan_67_g (n := 17) rfl
theorem dX11_findPlan_101 : decode cX11_findPlan 101 = .ok (.iconst 1, 1) := nq_d dX11_findPlan_67_g (n := 18) rfl
theorem dX11_findPlan_102 : decode cX11_findPlan 102 = .ok (.ireturn, 1) := nq_d dX11_findPlan_67_g (n := 19) rfl
set_option maxRecDepth 100000 in
theorem ggX11_plan_X11_isGuest : GoodIn wsX11_plan wsX11_isGuest := goodIn_sub (sub_c (nq_m (n := 8) rfl) (sub_c (nq_m (n := 1) rfl) (sub_c (nq_m (n := 9) rfl) (sub_c (nq_m (n := 10) rfl) (sub_c (nq_m (n := 7) rfl) (sub_c (nq_m (n := 11) rfl) (sub_c (nq_m (n := 45) rfl) (sub_c (nq_m (n := 46) rfl) (sub_c (nq_m (n := 47) rfl) (sub_c (nq_m (n := 48) rfl) (sub_c (nq_m (n := 49) rfl) (sub_c (nq_m (n := 50) rfl) (sub_c (nq_m (n := 51) rfl) (sub_c (nq_m (n := 52) rfl) (sub_c (nq_m (n := 53) rfl) (sub_c (nq_m (n := 54) rfl) (sub_c (nq_m (n := 55) rfl) (sub_c (nq_m (n := 56) rfl) (sub_c (nq_m (n := 57) rfl) (sub_c (nq_m (n := 58) rfl) (sub_c (nq_m (n := 59) rfl) (sub_c (nq_m (n := 60) rfl) (sub_c (nq_m (n := 61) rfl) (sub_c (nq_m (n := 62) rfl) (sub_c (nq_m (n := 63) rfl) (sub_c (nq_m (n := 64) rfl) (sub_c (nq_m (n := 65) rfl) (sub_c (nq_m (n := 66) rfl) (sub_c (nq_m (n := 67) rfl) (sub_c (nq_m (n := 68) rfl) (sub_c (nq_m (n := 69) rfl) (sub_c (nq_m (n := 70) rfl) (sub_c (nq_m (n := 71) rfl) (sub_c (nq_m (n := 72) rfl) (sub_c (nq_m (n := 73) rfl) (sub_c (nq_m (n := 74) rfl) (sub_c (nq_m (n := 75) rfl) (sub_c (nq_m (n := 76) rfl) (sub_c (nq_m (n := 77) rfl) (sub_c (nq_m (n := 78) rfl) (sub_c (nq_m (n := 79) rfl) (sub_c (nq_m (n := 80) rfl) (sub_c (nq_m (n := 81) rfl) (sub_c (nq_m (n := 82) rfl) (sub_c (nq_m (n := 83) rfl) (sub_c (nq_m (n := 84) rfl) (sub_c (nq_m (n := 85) rfl) (sub_c (nq_m (n := 86) rfl) (sub_c (nq_m (n := 87) rfl) (sub_c (nq_m (n := 88) rfl) (sub_c (nq_m (n := 89) rfl) (sub_c (nq_m (n := 90) rfl) (sub_c (nq_m (n := 91) rfl) (sub_c (nq_m (n := 92) rfl) (sub_c (nq_m (n := 93) rfl) (sub_c (nq_m (n := 94) rfl) (sub_c (nq_m (n := 95) rfl) (sub_c (nq_m (n := 96) rfl) (sub_c (nq_m (n := 97) rfl) (sub_c (nq_m (n := 98) rfl) (sub_c (nq_m (n := 99) rfl) (sub_c (nq_m (n := 100) rfl) (sub_c (nq_m (n := 101) rfl) (sub_c (nq_m (n := 102) rfl) sub_n)))))))))))))))))))))))))))))))))))))))))))))))))))))))))))))))) (by decide +kernel)
set_option maxRecDepth 100000 in
theorem gX11_plan_X11_isGuest : GoodIn wsX11_plan (wsV RX11 255 RX11 yX11_isGuest wsX11_isGuest) := goodIn_app (goodIn_sub (sub_c (nq_m (n := 4) rfl) (sub_c (nq_m (n := 5) rfl) (sub_c (nq_m (n := 6) rfl) (sub_c (nq_m (n := 7) rfl) sub_n)))) (by decide +kernel)) ggX11_plan_X11_isGuest
set_option maxRecDepth 100000 in
theorem ggX11_plan_X11_findPlan : GoodIn wsX11_plan wsX11_findPlan := goodIn_sub (sub_c (nq_m (n := 15) rfl) (sub_c (nq_m (n := 1) rfl) (sub_c (nq_m (n := 3) rfl) (sub_c (nq_m (n := 16) rfl) (sub_c (nq_m (n := 17) rfl) (sub_c (nq_m (n := 18) rfl) (sub_c (nq_m (n := 19) rfl) (sub_c (nq_m (n := 20) rfl) (sub_c (nq_m (n := 7) rfl) (sub_c (nq_m (n := 21) rfl) (sub_c (nq_m (n := 22) rfl) (sub_c (nq_m (n := 23) rfl) (sub_c (nq_m (n := 24) rfl) (sub_c (nq_m (n := 25) rfl) (sub_c (nq_m (n := 26) rfl) (sub_c (nq_m (n := 27) rfl) (sub_c (nq_m (n := 28) rfl) (sub_c (nq_m (n := 29) rfl) (sub_c (nq_m (n := 30) rfl) (sub_c (nq_m (n := 31) rfl) (sub_c (nq_m (n := 32) rfl) (sub_c (nq_m (n := 33) rfl) (sub_c (nq_m (n := 34) rfl) (sub_c (nq_m (n := 35) rfl) (sub_c (nq_m (n := 36) rfl) (sub_c (nq_m (n := 37) rfl) (sub_c (nq_m (n := 38) rfl) (sub_c (nq_m (n := 39) rfl) (sub_c (nq_m (n := 40) rfl) (sub_c (nq_m (n := 41) rfl) (sub_c (nq_m (n := 42) rfl) (sub_c (nq_m (n := 43) rfl) (sub_c (nq_m (n := 44) rfl) (sub_c (nq_m (n := 2) rfl) (sub_c (nq_m (n := 45) rfl) (sub_c (nq_m (n := 46) rfl) (sub_c (nq_m (n := 47) rfl) (sub_c (nq_m (n := 48) rfl) (sub_c (nq_m (n := 49) rfl) (sub_c (nq_m (n := 50) rfl) (sub_c (nq_m (n := 51) rfl) (sub_c (nq_m (n := 52) rfl) (sub_c (nq_m (n := 53) rfl) (sub_c (nq_m (n := 54) rfl) (sub_c (nq_m (n := 55) rfl) (sub_c (nq_m (n := 56) rfl) (sub_c (nq_m (n := 57) rfl) (sub_c (nq_m (n := 58) rfl) (sub_c (nq_m (n := 59) rfl) (sub_c (nq_m (n := 60) rfl) (sub_c (nq_m (n := 61) rfl) (sub_c (nq_m (n := 62) rfl) (sub_c (nq_m (n := 63) rfl) (sub_c (nq_m (n := 64) rfl) (sub_c (nq_m (n := 65) rfl) (sub_c (nq_m (n := 66) rfl) (sub_c (nq_m (n := 67) rfl) (sub_c (nq_m (n := 68) rfl) (sub_c (nq_m (n := 69) rfl) (sub_c (nq_m (n := 70) rfl) (sub_c (nq_m (n := 71) rfl) (sub_c (nq_m (n := 72) rfl) (sub_c (nq_m (n := 73) rfl) (sub_c (nq_m (n := 74) rfl) (sub_c (nq_m (n := 75) rfl) (sub_c (nq_m (n := 76) rfl) (sub_c (nq_m (n := 77) rfl) (sub_c (nq_m (n := 78) rfl) (sub_c (nq_m (n := 79) rfl) (sub_c (nq_m (n := 80) rfl) (sub_c (nq_m (n := 81) rfl) (sub_c (nq_m (n := 82) rfl) (sub_c (nq_m (n := 83) rfl) (sub_c (nq_m (n := 84) rfl) (sub_c (nq_m (n := 85) rfl) (sub_c (nq_m (n := 86) rfl) (sub_c (nq_m (n := 87) rfl) (sub_c (nq_m (n := 88) rfl) (sub_c (nq_m (n := 89) rfl) (sub_c (nq_m (n := 90) rfl) (sub_c (nq_m (n := 91) rfl) (sub_c (nq_m (n := 92) rfl) (sub_c (nq_m (n := 93) rfl) (sub_c (nq_m (n := 94) rfl) (sub_c (nq_m (n := 95) rfl) (sub_c (nq_m (n := 96) rfl) (sub_c (nq_m (n := 97) rfl) (sub_c (nq_m (n := 98) rfl) (sub_c (nq_m (n := 99) rfl) (sub_c (nq_m (n := 100) rfl) (sub_c (nq_m (n := 101) rfl) (sub_c (nq_m (n := 102) rfl) sub_n)))))))))))))))))))))))))))))))))))))))))))))))))))))))))))))))))))))))))))))))))))))))))))) (by decide +kernel)
set_option maxRecDepth 100000 in
theorem gX11_plan_X11_findPlan : GoodIn wsX11_plan (wsV RX11 274 RX11 yX11_findPlan wsX11_findPlan) := goodIn_app (goodIn_sub (sub_c (nq_m (n := 12) rfl) (sub_c (nq_m (n := 13) rfl) (sub_c (nq_m (n := 14) rfl) (sub_c (nq_m (n := 7) rfl) sub_n)))) (by decide +kernel)) ggX11_plan_X11_findPlan
set_option maxRecDepth 100000 in
theorem ggX11_plan_X11_expected : GoodIn wsX11_plan wsX11_expected := goodIn_sub (sub_c (nq_m (n := 25) rfl) (sub_c (nq_m (n := 26) rfl) (sub_c (nq_m (n := 27) rfl) (sub_c (nq_m (n := 28) rfl) (sub_c (nq_m (n := 29) rfl) (sub_c (nq_m (n := 30) rfl) (sub_c (nq_m (n := 31) rfl) (sub_c (nq_m (n := 32) rfl) (sub_c (nq_m (n := 33) rfl) (sub_c (nq_m (n := 7) rfl) (sub_c (nq_m (n := 34) rfl) (sub_c (nq_m (n := 35) rfl) (sub_c (nq_m (n := 36) rfl) (sub_c (nq_m (n := 37) rfl) (sub_c (nq_m (n := 38) rfl) (sub_c (nq_m (n := 45) rfl) (sub_c (nq_m (n := 46) rfl) (sub_c (nq_m (n := 47) rfl) (sub_c (nq_m (n := 48) rfl) (sub_c (nq_m (n := 49) rfl) (sub_c (nq_m (n := 50) rfl) (sub_c (nq_m (n := 51) rfl) (sub_c (nq_m (n := 52) rfl) (sub_c (nq_m (n := 53) rfl) (sub_c (nq_m (n := 54) rfl) (sub_c (nq_m (n := 55) rfl) (sub_c (nq_m (n := 56) rfl) (sub_c (nq_m (n := 57) rfl) (sub_c (nq_m (n := 58) rfl) (sub_c (nq_m (n := 59) rfl) (sub_c (nq_m (n := 60) rfl) (sub_c (nq_m (n := 61) rfl) (sub_c (nq_m (n := 62) rfl) (sub_c (nq_m (n := 63) rfl) (sub_c (nq_m (n := 64) rfl) (sub_c (nq_m (n := 65) rfl) (sub_c (nq_m (n := 66) rfl) (sub_c (nq_m (n := 67) rfl) (sub_c (nq_m (n := 68) rfl) (sub_c (nq_m (n := 69) rfl) (sub_c (nq_m (n := 70) rfl) (sub_c (nq_m (n := 71) rfl) (sub_c (nq_m (n := 72) rfl) (sub_c (nq_m (n := 73) rfl) (sub_c (nq_m (n := 74) rfl) (sub_c (nq_m (n := 75) rfl) (sub_c (nq_m (n := 76) rfl) (sub_c (nq_m (n := 77) rfl) (sub_c (nq_m (n := 78) rfl) (sub_c (nq_m (n := 79) rfl) (sub_c (nq_m (n := 80) rfl) (sub_c (nq_m (n := 81) rfl) (sub_c (nq_m (n := 82) rfl) (sub_c (nq_m (n := 83) rfl) (sub_c (nq_m (n := 84) rfl) (sub_c (nq_m (n := 85) rfl) (sub_c (nq_m (n := 86) rfl) (sub_c (nq_m (n := 87) rfl) (sub_c (nq_m (n := 88) rfl) (sub_c (nq_m (n := 89) rfl) (sub_c (nq_m (n := 90) rfl) (sub_c (nq_m (n := 91) rfl) (sub_c (nq_m (n := 92) rfl) (sub_c (nq_m (n := 93) rfl) (sub_c (nq_m (n := 94) rfl) (sub_c (nq_m (n := 95) rfl) (sub_c (nq_m (n := 96) rfl) (sub_c (nq_m (n := 97) rfl) (sub_c (nq_m (n := 98) rfl) (sub_c (nq_m (n := 99) rfl) (sub_c (nq_m (n := 100) rfl) (sub_c (nq_m (n := 101) rfl) (sub_c (nq_m (n := 102) rfl) sub_n))))))))))))))))))))))))))))))))))))))))))))))))))))))))))))))))))))))))) (by decide +kernel)
set_option maxRecDepth 100000 in
theorem gX11_plan_X11_expected : GoodIn wsX11_plan (wsV RX11 264 RX11 yX11_expected wsX11_expected) := goodIn_app (goodIn_sub (sub_c (nq_m (n := 22) rfl) (sub_c (nq_m (n := 23) rfl) (sub_c (nq_m (n := 24) rfl) (sub_c (nq_m (n := 7) rfl) sub_n)))) (by decide +kernel)) ggX11_plan_X11_expected
noncomputable def dX11_plan_0_l : List (Nat × Instr × Nat) := [(0, .iload_n 2, 1), (1, .iconst (-1), 1), (2, .if_icmp .eq 15, 3), (5, .aload_n 0, 1), (6, .iload_n 2, 1), (7, .invokevirtual 255, 3), (10, .ifCond .ne 7, 3), (13, .sipush (-1001), 3), (16, .ireturn, 1), (17, .aload_n 0, 1), (18, .iload_n 1, 1), (19, .invokevirtual 274, 3), (22, .ifCond .ne 5, 3), (25, .iconst (-1), 1), (26, .ireturn, 1), (27, .iconst 0, 1), (28, .istore_n 3, 1), (29, .iconst 0, 1), (30, .istore 4, 2), (32, .iload 4, 2), (34, .aload_n 0, 1), (35, .getfield 227, 3), (38, .if_icmp .ge 31, 3), (41, .iload_n 3, 1), (42, .aload_n 0, 1), (43, .iload 4, 2), (45, .invokevirtual 264, 3), (48, .aload_n 0, 1), (49, .getfield 13, 3), (52, .aload_n 0, 1), (53, .getfield 68, 3), (56, .iload 4, 2), (58, .iaload, 1), (59, .iaload, 1), (60, .imul, 1), (61, .iadd, 1), (62, .istore_n 3, 1), (63, .iinc 4 1, 3), (66, .goto (-34), 3), (69, .iload_n 2, 1)]
set_option maxRecDepth 100000 in
theorem dX11_plan_0_g : dX11_plan_0_l.all (fun x => decide (decode cX11_plan x.1 = .ok x.2)) = true := by decide +kernel
theorem dX11_plan_0 : decode cX11_plan 0 = .ok (.iload_n 2, 1) := nq_d dX11_plan_0_g (n := 0) rfl
theorem dX11_plan_1 : decode cX11_plan 1 = .ok (.iconst (-1), 1) := nq_d dX11_plan_0_g (n := 1) rfl
theorem dX11_plan_2 : decode cX11_plan 2 = .ok (.if_icmp .eq 15, 3) := nq_d dX11_plan_0_g (n := 2) rfl
theorem dX11_plan_5 : decode cX11_plan 5 = .ok (.aload_n 0, 1) := nq_d dX11_plan_0_g (n := 3) rfl
theorem dX11_plan_6 : decode cX11_plan 6 = .ok (.iload_n 2, 1) := nq_d dX11_plan_0_g (n := 4) rfl
theorem dX11_plan_7 : decode cX11_plan 7 = .ok (.invokevirtual 255, 3) := nq_d dX11_plan_0_g (n := 5) rfl
theorem dX11_plan_10 : decode cX11_plan 10 = .ok (.ifCond .ne 7, 3) := nq_d dX11_plan_0_g (n := 6) rfl
theorem dX11_plan_13 : decode cX11_plan 13 = .ok (.sipush (-1001), 3) := nq_d dX11_plan_0_g (n := 7) rfl
theorem dX11_plan_16 : decode cX11_plan 16 = .ok (.ireturn, 1) := nq_d dX11_plan_0_g (n := 8) rfl
theorem dX11_plan_17 : decode cX11_plan 17 = .ok (.aload_n 0, 1) := nq_d dX11_plan_0_g (n := 9) rfl
theorem dX11_plan_18 : decode cX11_plan 18 = .ok (.iload_n 1, 1) := nq_d dX11_plan_0_g (n := 10) rfl
theorem dX11_plan_19 : decode cX11_plan 19 = .ok (.invokevirtual 274, 3) := nq_d dX11_plan_0_g (n := 11) rfl
theorem dX11_plan_22 : decode cX11_plan 22 = .ok (.ifCond .ne 5, 3) := nq_d dX11_plan_0_g (n := 12) rfl
theorem dX11_plan_25 : decode cX11_plan 25 = .ok (.iconst (-1), 1) := nq_d dX11_plan_0_g (n := 13) rfl
theorem dX11_plan_26 : decode cX11_plan 26 = .ok (.ireturn, 1) := nq_d dX11_plan_0_g (n := 14) rfl
theorem dX11_plan_27 : decode cX11_plan 27 = .ok (.iconst 0, 1) := nq_d dX11_plan_0_g (n := 15) rfl
theorem dX11_plan_28 : decode cX11_plan 28 = .ok (.istore_n 3, 1) := nq_d dX11_plan_0_g (n := 16) rfl
theorem dX11_plan_29 : decode cX11_plan 29 = .ok (.iconst 0, 1) := nq_d dX11_plan_0_g (n := 17) rfl
theorem dX11_plan_30 : decode cX11_plan 30 = .ok (.istore 4, 2) := nq_d dX11_plan_0_g (n := 18) rfl
theorem dX11_plan_32 : decode cX11_plan 32 = .ok (.iload 4, 2) := nq_d dX11_plan_0_g (n := 19) rfl
theorem dX11_plan_34 : decode cX11_plan 34 = .ok (.aload_n 0, 1) := nq_d dX11_plan_0_g (n := 20) rfl
theorem dX11_plan_35 : decode cX11_plan 35 = .ok (.getfield 227, 3) := nq_d dX11_plan_0_g (n := 21) rfl
theorem dX11_plan_38 : decode cX11_plan 38 = .ok (.if_icmp .ge 31, 3) := nq_d dX11_plan_0_g (n := 22) rfl
theorem dX11_plan_41 : decode cX11_plan 41 = .ok (.iload_n 3, 1) := nq_d dX11_plan_0_g (n := 23) rfl
theorem dX11_plan_42 : decode cX11_plan 42 = .ok (.aload_n 0, 1) := nq_d dX11_plan_0_g (n := 24) rfl
theorem dX11_plan_43 : decode cX11_plan 43 = .ok (.iload 4, 2) := nq_d dX11_plan_0_g (n := 25) rfl
theorem dX11_plan_45 : decode cX11_plan 45 = .ok (.invokevirtual 264, 3) := nq_d dX11_plan_0_g (n := 26) rfl
theorem dX11_plan_48 : decode cX11_plan 48 = .ok (.aload_n 0, 1) := nq_d dX11_plan_0_g (n := 27) rfl
theorem dX11_plan_49 : decode cX11_plan 49 = .ok (.getfield 13, 3) := nq_d dX11_plan_0_g (n := 28) rfl
theorem dX11_plan_52 : decode cX11_plan 52 = .ok (.aload_n 0, 1) := nq_d dX11_plan_0_g (n := 29) rfl
theorem dX11_plan_53 : decode cX11_plan 53 = .ok (.getfield 68, 3) := nq_d dX11_plan_0_g (n := 30) rfl
theorem dX11_plan_56 : decode cX11_plan 56 = .ok (.iload 4, 2) := nq_d dX11_plan_0_g (n := 31) rfl
theorem dX11_plan_58 : decode cX11_plan 58 = .ok (.iaload, 1) := nq_d dX11_plan_0_g (n := 32) rfl
theorem dX11_plan_59 : decode cX11_plan 59 = .ok (.iaload, 1) := nq_d dX11_plan_0_g (n := 33) rfl
theorem dX11_plan_60 : decode cX11_plan 60 = .ok (.imul, 1) := nq_d dX11_plan_0_g (n := 34) rfl
theorem dX11_plan_61 : decode cX11_plan 61 = .ok (.iadd, 1) := nq_d dX11_plan_0_g (n := 35) rfl
theorem dX11_plan_62 : decode cX11_plan 62 = .ok (.istore_n 3, 1) := nq_d dX11_plan_0_g (n := 36) rfl
theorem dX11_plan_63 : decode cX11_plan 63 = .ok (.iinc 4 1, 3) := nq_d dX11_plan_0_g (n := 37) rfl
theorem dX11_plan_66 : decode cX11_plan 66 = .ok (.goto (-34), 3) := nq_d dX11_plan_0_g (n := 38) rfl
theorem dX11_plan_69 : decode cX11_plan 69 = .ok (.iload_n 2, 1) := nq_d dX11_plan_0_g (n := 39) rfl
noncomputable def dX11_plan_70_l : List (Nat × Instr × Nat) := [(70, .iconst (-1), 1), (71, .if_icmp .ne 7, 3), (74, .iload_n 3, 1), (75, .goto 9, 3), (78, .aload_n 0, 1), (79, .getfield 68, 3), (82, .iload_n 2, 1), (83, .iaload, 1), (84, .ireturn, 1)]
set_option maxRecDepth 100000 in
theorem dX11_plan_70_g : dX11_plan_70_l.all (fun x => decide (decode cX11_plan x.1 = .ok x.2)) = true := by decide +kernel
theorem dX11_plan_70 : decode cX11_plan 70 = .ok (.iconst (-1), 1) := nq_d dX11_plan_70_g (n := 0) rfl
theorem dX11_plan_71 : decode cX11_plan 71 = .ok (.if_icmp .ne 7, 3) := nq_d dX11_plan_70_g (n := 1) rfl
theorem dX11_plan_74 : decode cX11_plan 74 = .ok (.iload_n 3, 1) := nq_d dX11_plan_70_g (n := 2) rfl
theorem dX11_plan_75 : decode cX11_plan 75 = .ok (.goto 9, 3) := nq_d dX11_plan_70_g (n := 3) rfl
theorem dX11_plan_78 : decode cX11_plan 78 = .ok (.aload_n 0, 1) := nq_d dX11_plan_70_g (n := 4) rfl
theorem dX11_plan_79 : decode cX11_plan 79 = .ok (.getfield 68, 3) := nq_d dX11_plan_70_g (n := 5) rfl
theorem dX11_plan_82 : decode cX11_plan 82 = .ok (.iload_n 2, 1) := nq_d dX11_plan_70_g (n := 6) rfl
theorem dX11_plan_83 : decode cX11_plan 83 = .ok (.iaload, 1) := nq_d dX11_plan_70_g (n := 7) rfl
theorem dX11_plan_84 : decode cX11_plan 84 = .ok (.ireturn, 1) := nq_d dX11_plan_70_g (n := 8) rfl
set_option maxRecDepth 100000 in
theorem ggX11_isNight_X11_in : GoodIn wsX11_isNight wsX11_in := goodIn_sub (sub_c (nq_m (n := 5) rfl) sub_n) (by decide +kernel)
set_option maxRecDepth 100000 in
theorem gX11_isNight_X11_in : GoodIn wsX11_isNight (va_wsS RX11 126 yX11_in wsX11_in) := goodIn_app (goodIn_sub (sub_c (nq_m (n := 2) rfl) (sub_c (nq_m (n := 3) rfl) (sub_c (nq_m (n := 4) rfl) sub_n))) (by decide +kernel)) ggX11_isNight_X11_in
noncomputable def dX11_isNight_0_l : List (Nat × Instr × Nat) := [(0, .iload_n 0, 1), (1, .i2l, 1), (2, .lconst 0, 1), (3, .ldc2_w 234, 3), (6, .invokestatic 126, 3), (9, .ifCond .eq 17, 3), (12, .iload_n 1, 1), (13, .i2l, 1), (14, .lconst 0, 1), (15, .lconst 1, 1), (16, .invokestatic 126, 3), (19, .ifCond .eq 7, 3), (22, .iconst 1, 1), (23, .goto 4, 3), (26, .iconst 0, 1), (27, .ireturn, 1)]
set_option maxRecDepth 100000 in
theorem dX11_isNight_0_g : dX11_isNight_0_l.all (fun x => decide (decode cX11_isNight x.1 = .ok x.2)) = true := by decide +kernel
theorem dX11_isNight_0 : decode cX11_isNight 0 = .ok (.iload_n 0, 1) := nq_d dX11_isNight_0_g (n := 0) rfl
theorem dX11_isNight_1 : decode cX11_isNight 1 = .ok (.i2l, 1) := nq_d dX11_isNight_0_g (n := 1) rfl
theorem dX11_isNight_2 : decode cX11_isNight 2 = .ok (.lconst 0, 1) := nq_d dX11_isNight_0_g (n := 2) rfl
theorem dX11_isNight_3 : decode cX11_isNight 3 = .ok (.ldc2_w 234, 3) := nq_d dX11_isNight_0_g (n := 3) rfl
theorem dX11_isNight_6 : decode cX11_isNight 6 = .ok (.invokestatic 126, 3) := nq_d dX11_isNight_0_g (n := 4) rfl
theorem dX11_isNight_9 : decode cX11_isNight 9 = .ok (.ifCond .eq 17, 3) := nq_d dX11_isNight_0_g (n := 5) rfl
theorem dX11_isNight_12 : decode cX11_isNight 12 = .ok (.iload_n 1, 1) := nq_d dX11_isNight_0_g (n := 6) rfl
theorem dX11_isNight_13 : decode cX11_isNight 13 = .ok (.i2l, 1) := nq_d dX11_isNight_0_g (n := 7) rfl
theorem dX11_isNight_14 : decode cX11_isNight 14 = .ok (.lconst 0, 1) := nq_d dX11_isNight_0_g (n := 8) rfl
theorem dX11_isNight_15 : decode cX11_isNight 15 = .ok (.lconst 1, 1) := nq_d dX11_isNight_0_g (n := 9) rfl
theorem dX11_isNight_16 : decode cX11_isNight 16 = .ok (.invokestatic 126, 3) := nq_d dX11_isNight_0_g (n := 10) rfl
theorem dX11_isNight_19 : decode cX11_isNight 19 = .ok (.ifCond .eq 7, 3) := nq_d dX11_isNight_0_g (n := 11) rfl
theorem dX11_isNight_22 : decode cX11_isNight 22 = .ok (.iconst 1, 1) := nq_d dX11_isNight_0_g (n := 12) rfl
theorem dX11_isNight_23 : decode cX11_isNight 23 = .ok (.goto 4, 3) := nq_d dX11_isNight_0_g (n := 13) rfl
theorem dX11_isNight_26 : decode cX11_isNight 26 = .ok (.iconst 0, 1) := nq_d dX11_isNight_0_g (n := 14) rfl
theorem dX11_isNight_27 : decode cX11_isNight 27 = .ok (.ireturn, 1) := nq_d dX11_isNight_0_g (n := 15) rfl
set_option maxRecDepth 100000 in
theorem ggX11_night_X11_isNight : GoodIn wsX11_night wsX11_isNight := goodIn_sub (sub_c (nq_m (n := 9) rfl) (sub_c (nq_m (n := 10) rfl) (sub_c (nq_m (n := 11) rfl) (sub_c (nq_m (n := 12) rfl) (sub_c (nq_m (n := 8) rfl) (sub_c (nq_m (n := 13) rfl) sub_n)))))) (by decide +kernel)
set_option maxRecDepth 100000 in
theorem gX11_night_X11_isNight : GoodIn wsX11_night (va_wsS RX11 278 yX11_isNight wsX11_isNight) := goodIn_app (goodIn_sub (sub_c (nq_m (n := 6) rfl) (sub_c (nq_m (n := 7) rfl) (sub_c (nq_m (n := 8) rfl) sub_n))) (by decide +kernel)) ggX11_night_X11_isNight
set_option maxRecDepth 100000 in
theorem ggX11_night_X11_in : GoodIn wsX11_night wsX11_in := goodIn_sub (sub_c (nq_m (n := 13) rfl) sub_n) (by decide +kernel)
set_option maxRecDepth 100000 in
theorem gX11_night_X11_in : GoodIn wsX11_night (va_wsS RX11 126 yX11_in wsX11_in) := goodIn_app (goodIn_sub (sub_c (nq_m (n := 11) rfl) (sub_c (nq_m (n := 12) rfl) (sub_c (nq_m (n := 8) rfl) sub_n))) (by decide +kernel)) ggX11_night_X11_in
noncomputable def dX11_night_0_l : List (Nat × Instr × Nat) := [(0, .iload_n 1, 1), (1, .iload_n 2, 1), (2, .invokestatic 278, 3), (5, .ifCond .eq 41, 3), (8, .iload_n 3, 1), (9, .i2l, 1), (10, .lconst 0, 1), (11, .ldc2_w 282, 3), (14, .invokestatic 126, 3), (17, .ifCond .eq 29, 3), (20, .iload 4, 2), (22, .i2l, 1), (23, .lconst 0, 1), (24, .ldc2_w 282, 3), (27, .invokestatic 126, 3), (30, .ifCond .eq 16, 3), (33, .iload 5, 2), (35, .i2l, 1), (36, .lconst 0, 1), (37, .ldc2_w 282, 3), (40, .invokestatic 126, 3), (43, .ifCond .ne 7, 3), (46, .sipush (-1002), 3), (49, .ireturn, 1), (50, .aload_n 0, 1), (51, .getfield 241, 3), (54, .bipush 60, 2), (56, .if_icmp .ne 7, 3), (59, .sipush (-1004), 3), (62, .ireturn, 1), (63, .aload_n 0, 1), (64, .getfield 75, 3), (67, .aload_n 0, 1), (68, .getfield 241, 3), (71, .iload_n 1, 1), (72, .iastore, 1), (73, .aload_n 0, 1), (74, .getfield 78, 3), (77, .aload_n 0, 1), (78, .getfield 241, 3)]
set_option maxRecDepth 100000 in
theorem dX11_night_0_g : dX11_night_0_l.all (fun x => decide (decode cX11_night x.1 = .ok x.2)) = true := by decide +kernel
theorem dX11_night_0 : decode cX11_night 0 = .ok (.iload_n 1, 1) := nq_d dX11_night_0_g (n := 0) rfl
theorem dX11_night_1 : decode cX11_night 1 = .ok (.iload_n 2, 1) := nq_d dX11_night_0_g (n := 1) rfl
theorem dX11_night_2 : decode cX11_night 2 = .ok (.invokestatic 278, 3) := nq_d dX11_night_0_g (n := 2) rfl
theorem dX11_night_5 : decode cX11_night 5 = .ok (.ifCond .eq 41, 3) := nq_d dX11_night_0_g (n := 3) rfl
theorem dX11_night_8 : decode cX11_night 8 = .ok (.iload_n 3, 1) := nq_d dX11_night_0_g (n := 4) rfl
theorem dX11_night_9 : decode cX11_night 9 = .ok (.i2l, 1) := nq_d dX11_night_0_g (n := 5) rfl
theorem dX11_night_10 : decode cX11_night 10 = .ok (.lconst 0, 1) := nq_d dX11_night_0_g (n := 6) rfl
theorem dX11_night_11 : decode cX11_night 11 = .ok (.ldc2_w 282, 3) := nq_d dX11_night_0_g (n := 7) rfl
theorem dX11_night_14 : decode cX11_night 14 = .ok (.invokestatic 126, 3) := nq_d dX11_night_0_g (n := 8) rfl
theorem dX11_night_17 : decode cX11_night 17 = .ok (.ifCond .eq 29, 3) := nq_d dX11_night_0_g (n := 9) rfl
theorem dX11_night_20 : decode cX11_night 20 = .ok (.iload 4, 2) := nq_d dX11_night_0_g (n := 10) rfl
theorem dX11_night_22 : decode cX11_night 22 = .ok (.i2l, 1) := nq_d dX11_night_0_g (n := 11) rfl
theorem dX11_night_23 : decode cX11_night 23 = .ok (.lconst 0, 1) := nq_d dX11_night_0_g (n := 12) rfl
theorem dX11_night_24 : decode cX11_night 24 = .ok (.ldc2_w 282, 3) := nq_d dX11_night_0_g (n := 13) rfl
theorem dX11_night_27 : decode cX11_night 27 = .ok (.invokestatic 126, 3) := nq_d dX11_night_0_g (n := 14) rfl
theorem dX11_night_30 : decode cX11_night 30 = .ok (.ifCond .eq 16, 3) := nq_d dX11_night_0_g (n := 15) rfl
theorem dX11_night_33 : decode cX11_night 33 = .ok (.iload 5, 2) := nq_d dX11_night_0_g (n := 16) rfl
theorem dX11_night_35 : decode cX11_night 35 = .ok (.i2l, 1) := nq_d dX11_night_0_g (n := 17) rfl
theorem dX11_night_36 : decode cX11_night 36 = .ok (.lconst 0, 1) := nq_d dX11_night_0_g (n := 18) rfl
theorem dX11_night_37 : decode cX11_night 37 = .ok (.ldc2_w 282, 3) := nq_d dX11_night_0_g (n := 19) rfl
theorem dX11_night_40 : decode cX11_night 40 = .ok (.invokestatic 126, 3) := nq_d dX11_night_0_g (n := 20) rfl
theorem dX11_night_43 : decode cX11_night 43 = .ok (.ifCond .ne 7, 3) := nq_d dX11_night_0_g (n := 21) rfl
theorem dX11_night_46 : decode cX11_night 46 = .ok (.sipush (-1002), 3) := nq_d dX11_night_0_g (n := 22) rfl
theorem dX11_night_49 : decode cX11_night 49 = .ok (.ireturn, 1) := nq_d dX11_night_0_g (n := 23) rfl
theorem dX11_night_50 : decode cX11_night 50 = .ok (.aload_n 0, 1) := nq_d dX11_night_0_g (n := 24) rfl
theorem dX11_night_51 : decode cX11_night 51 = .ok (.getfield 241, 3) := nq_d dX11_night_0_g (n := 25) rfl
theorem dX11_night_54 : decode cX11_night 54 = .ok (.bipush 60, 2) := nq_d dX11_night_0_g (n := 26) rfl
theorem dX11_night_56 : decode cX11_night 56 = .ok (.if_icmp .ne 7, 3) := nq_d dX11_night_0_g (n := 27) rfl
theorem dX11_night_59 : decode cX11_night 59 = .ok (.sipush (-1004), 3) := nq_d dX11_night_0_g (n := 28) rfl
theorem dX11_night_62 : decode cX11_night 62 = .ok (.ireturn, 1) := nq_d dX11_night_0_g (n := 29) rfl
theorem dX11_night_63 : decode cX11_night 63 = .ok (.aload_n 0, 1) := nq_d dX11_night_0_g (n := 30) rfl
theorem dX11_night_64 : decode cX11_night 64 = .ok (.getfield 75, 3) := nq_d dX11_night_0_g (n := 31) rfl
theorem dX11_night_67 : decode cX11_night 67 = .ok (.aload_n 0, 1) := nq_d dX11_night_0_g (n := 32) rfl
theorem dX11_night_68 : decode cX11_night 68 = .ok (.getfield 241, 3) := nq_d dX11_night_0_g (n := 33) rfl
theorem dX11_night_71 : decode cX11_night 71 = .ok (.iload_n 1, 1) := nq_d dX11_night_0_g (n := 34) rfl
theorem dX11_night_72 : decode cX11_night 72 = .ok (.iastore, 1) := nq_d dX11_night_0_g (n := 35) rfl
theorem dX11_night_73 : decode cX11_night 73 = .ok (.aload_n 0, 1) := nq_d dX11_night_0_g (n := 36) rfl
theorem dX11_night_74 : decode cX11_night 74 = .ok (.getfield 78, 3) := nq_d dX11_night_0_g (n := 37) rfl
theorem dX11_night_77 : decode cX11_night 77 = .ok (.aload_n 0, 1) := nq_d dX11_night_0_g (n := 38) rfl
theorem dX11_night_78 : decode cX11_night 78 = .ok (.getfield 241, 3) := nq_d dX11_night_0_g (n := 39) rfl
noncomputable def dX11_night_81_l : List (Nat × Instr × Nat) := [(81, .iload_n 2, 1), (82, .iastore, 1), (83, .aload_n 0, 1), (84, .getfield 81, 3), (87, .iconst 3, 1), (88, .aload_n 0, 1), (89, .getfield 241, 3), (92, .imul, 1), (93, .iload_n 3, 1), (94, .iastore, 1), (95, .aload_n 0, 1), (96, .getfield 81, 3), (99, .iconst 3, 1), (100, .aload_n 0, 1), (101, .getfield 241, 3), (104, .imul, 1), (105, .iconst 1, 1), (106, .iadd, 1), (107, .iload 4, 2), (109, .iastore, 1), (110, .aload_n 0, 1), (111, .getfield 81, 3), (114, .iconst 3, 1), (115, .aload_n 0, 1), (116, .getfield 241, 3), (119, .imul, 1), (120, .iconst 2, 1), (121, .iadd, 1), (122, .iload 5, 2), (124, .iastore, 1), (125, .aload_n 0, 1), (126, .dup, 1), (127, .getfield 241, 3), (130, .iconst 1, 1), (131, .iadd, 1), (132, .putfield 241, 3), (135, .aload_n 0, 1), (136, .getfield 241, 3), (139, .ireturn, 1)]
set_option maxRecDepth 100000 in
theorem dX11_night_81_g : dX11_night_81_l.all (fun x => decide (decode cX11_night x.1 = .ok x.2)) = true := by decide +kernel
theorem dX11_night_81 : decode cX11_night 81 = .ok (.iload_n 2, 1) := nq_d dX11_night_81_g (n := 0) rfl
theorem dX11_night_82 : decode cX11_night 82 = .ok (.iastore, 1) := nq_d dX11_night_81_g (n := 1) rfl
theorem dX11_night_83 : decode cX11_night 83 = .ok (.aload_n 0, 1) := nq_d dX11_night_81_g (n := 2) rfl
theorem dX11_night_84 : decode cX11_night 84 = .ok (.getfield 81, 3) := nq_d dX11_night_81_g (n := 3) rfl
theorem dX11_night_87 : decode cX11_night 87 = .ok (.iconst 3, 1) := nq_d dX11_night_81_g (n := 4) rfl
theorem dX11_night_88 : decode cX11_night 88 = .ok (.aload_n 0, 1) := nq_d dX11_night_81_g (n := 5) rfl
theorem dX11_night_89 : decode cX11_night 89 = .ok (.getfield 241, 3) := nq_d dX11_night_81_g (n := 6) rfl
theorem dX11_night_92 : decode cX11_night 92 = .ok (.imul, 1) := nq_d dX11_night_81_g (n := 7) rfl
theorem dX11_night_93 : decode cX11_night 93 = .ok (.iload_n 3, 1) := nq_d dX11_night_81_g (n := 8) rfl
theorem dX11_night_94 : decode cX11_night 94 = .ok (.iastore, 1) := nq_d dX11_night_81_g (n := 9) rfl
theorem dX11_night_95 : decode cX11_night 95 = .ok (.aload_n 0, 1) := nq_d dX11_night_81_g (n := 10) rfl
theorem dX11_night_96 : decode cX11_night 96 = .ok (.getfield 81, 3) := nq_d dX11_night_81_g (n := 11) rfl
theorem dX11_night_99 : decode cX11_night 99 = .ok (.iconst 3, 1) := nq_d dX11_night_81_g (n := 12) rfl
theorem dX11_night_100 : decode cX11_night 100 = .ok (.aload_n 0, 1) := nq_d dX11_night_81_g (n := 13) rfl
theorem dX11_night_101 : decode cX11_night 101 = .ok (.getfield 241, 3) := nq_d dX11_night_81_g (n := 14) rfl
theorem dX11_night_104 : decode cX11_night 104 = .ok (.imul, 1) := nq_d dX11_night_81_g (n := 15) rfl
theorem dX11_night_105 : decode cX11_night 105 = .ok (.iconst 1, 1) := nq_d dX11_night_81_g (n := 16) rfl
theorem dX11_night_106 : decode cX11_night 106 = .ok (.iadd, 1) := nq_d dX11_night_81_g (n := 17) rfl
theorem dX11_night_107 : decode cX11_night 107 = .ok (.iload 4, 2) := nq_d dX11_night_81_g (n := 18) rfl
theorem dX11_night_109 : decode cX11_night 109 = .ok (.iastore, 1) := nq_d dX11_night_81_g (n := 19) rfl
theorem dX11_night_110 : decode cX11_night 110 = .ok (.aload_n 0, 1) := nq_d dX11_night_81_g (n := 20) rfl
theorem dX11_night_111 : decode cX11_night 111 = .ok (.getfield 81, 3) := nq_d dX11_night_81_g (n := 21) rfl
theorem dX11_night_114 : decode cX11_night 114 = .ok (.iconst 3, 1) := nq_d dX11_night_81_g (n := 22) rfl
theorem dX11_night_115 : decode cX11_night 115 = .ok (.aload_n 0, 1) := nq_d dX11_night_81_g (n := 23) rfl
theorem dX11_night_116 : decode cX11_night 116 = .ok (.getfield 241, 3) := nq_d dX11_night_81_g (n := 24) rfl
theorem dX11_night_119 : decode cX11_night 119 = .ok (.imul, 1) := nq_d dX11_night_81_g (n := 25) rfl
theorem dX11_night_120 : decode cX11_night 120 = .ok (.iconst 2, 1) := nq_d dX11_night_81_g (n := 26) rfl
theorem dX11_night_121 : decode cX11_night 121 = .ok (.iadd, 1) := nq_d dX11_night_81_g (n := 27) rfl
theorem dX11_night_122 : decode cX11_night 122 = .ok (.iload 5, 2) := nq_d dX11_night_81_g (n := 28) rfl
theorem dX11_night_124 : decode cX11_night 124 = .ok (.iastore, 1) := nq_d dX11_night_81_g (n := 29) rfl
theorem dX11_night_125 : decode cX11_night 125 = .ok (.aload_n 0, 1) := nq_d dX11_night_81_g (n := 30) rfl
theorem dX11_night_126 : decode cX11_night 126 = .ok (.dup, 1) := nq_d dX11_night_81_g (n := 31) rfl
theorem dX11_night_127 : decode cX11_night 127 = .ok (.getfield 241, 3) := nq_d dX11_night_81_g (n := 32) rfl
theorem dX11_night_130 : decode cX11_night 130 = .ok (.iconst 1, 1) := nq_d dX11_night_81_g (n := 33) rfl
theorem dX11_night_131 : decode cX11_night 131 = .ok (.iadd, 1) := nq_d dX11_night_81_g (n := 34) rfl
theorem dX11_night_132 : decode cX11_night 132 = .ok (.putfield 241, 3) := nq_d dX11_night_81_g (n := 35) rfl
theorem dX11_night_135 : decode cX11_night 135 = .ok (.aload_n 0, 1) := nq_d dX11_night_81_g (n := 36) rfl
theorem dX11_night_136 : decode cX11_night 136 = .ok (.getfield 241, 3) := nq_d dX11_night_81_g (n := 37) rfl
theorem dX11_night_139 : decode cX11_night 139 = .ok (.ireturn, 1) := nq_d dX11_night_81_g (n := 38) rfl
noncomputable def dX11_learntOf_0_l : List (Nat × Instr × Nat) := [(0, .iconst 3, 1), (1, .istore 4, 2), (3, .iconst 1, 1), (4, .istore 5, 2), (6, .iconst 1, 1), (7, .istore 6, 2), (9, .iconst 0, 1), (10, .istore 7, 2), (12, .iload 7, 2), (14, .aload_n 0, 1), (15, .getfield 241, 3), (18, .if_icmp .ge 99, 3), (21, .aload_n 0, 1), (22, .getfield 75, 3), (25, .iload 7, 2), (27, .iaload, 1), (28, .iload_n 1, 1), (29, .if_icmp .ne 82, 3), (32, .aload_n 0, 1), (33, .getfield 78, 3), (36, .iload 7, 2), (38, .iaload, 1), (39, .iload_n 2, 1), (40, .if_icmp .ne 71, 3), (43, .iload 5, 2), (45, .aload_n 0, 1), (46, .getfield 81, 3), (49, .iconst 3, 1), (50, .iload 7, 2), (52, .imul, 1), (53, .iaload, 1), (54, .iadd, 1), (55, .istore 5, 2), (57, .iload 6, 2), (59, .aload_n 0, 1), (60, .getfield 81, 3), (63, .iconst 3, 1), (64, .iload 7, 2), (66, .imul, 1), (67, .iconst 1, 1)]
set_option maxRecDepth 100000 in
theorem dX11_learntOf_0_g : dX11_learntOf_0_l.all (fun x => decide (decode cX11_learntOf x.1 = .ok x.2)) = true := by decide +kernel
theorem dX11_learntOf_0 : decode cX11_learntOf 0 = .ok (.iconst 3, 1) := nq_d dX11_learntOf_0_g (n := 0) rfl
theorem dX11_learntOf_1 : decode cX11_learntOf 1 = .ok (.istore 4, 2) := nq_d dX11_learntOf_0_g (n := 1) rfl
theorem dX11_learntOf_3 : decode cX11_learntOf 3 = .ok (.iconst 1, 1) := nq_d dX11_learntOf_0_g (n := 2) rfl
theorem dX11_learntOf_4 : decode cX11_learntOf 4 = .ok (.istore 5, 2) := nq_d dX11_learntOf_0_g (n := 3) rfl
theorem dX11_learntOf_6 : decode cX11_learntOf 6 = .ok (.iconst 1, 1) := nq_d dX11_learntOf_0_g (n := 4) rfl
theorem dX11_learntOf_7 : decode cX11_learntOf 7 = .ok (.istore 6, 2) := nq_d dX11_learntOf_0_g (n := 5) rfl
theorem dX11_learntOf_9 : decode cX11_learntOf 9 = .ok (.iconst 0, 1) := nq_d dX11_learntOf_0_g (n := 6) rfl
theorem dX11_learntOf_10 : decode cX11_learntOf 10 = .ok (.istore 7, 2) := nq_d dX11_learntOf_0_g (n := 7) rfl
theorem dX11_learntOf_12 : decode cX11_learntOf 12 = .ok (.iload 7, 2) := nq_d dX11_learntOf_0_g (n := 8) rfl
theorem dX11_learntOf_14 : decode cX11_learntOf 14 = .ok (.aload_n 0, 1) := nq_d dX11_learntOf_0_g (n := 9) rfl
theorem dX11_learntOf_15 : decode cX11_learntOf 15 = .ok (.getfield 241, 3) := nq_d dX11_learntOf_0_g (n := 10) rfl
theorem dX11_learntOf_18 : decode cX11_learntOf 18 = .ok (.if_icmp .ge 99, 3) := nq_d dX11_learntOf_0_g (n := 11) rfl
theorem dX11_learntOf_21 : decode cX11_learntOf 21 = .ok (.aload_n 0, 1) := nq_d dX11_learntOf_0_g (n := 12) rfl
theorem dX11_learntOf_22 : decode cX11_learntOf 22 = .ok (.getfield 75, 3) := nq_d dX11_learntOf_0_g (n := 13) rfl
theorem dX11_learntOf_25 : decode cX11_learntOf 25 = .ok (.iload 7, 2) := nq_d dX11_learntOf_0_g (n := 14) rfl
theorem dX11_learntOf_27 : decode cX11_learntOf 27 = .ok (.iaload, 1) := nq_d dX11_learntOf_0_g (n := 15) rfl
theorem dX11_learntOf_28 : decode cX11_learntOf 28 = .ok (.iload_n 1, 1) := nq_d dX11_learntOf_0_g (n := 16) rfl
theorem dX11_learntOf_29 : decode cX11_learntOf 29 = .ok (.if_icmp .ne 82, 3) := nq_d dX11_learntOf_0_g (n := 17) rfl
theorem dX11_learntOf_32 : decode cX11_learntOf 32 = .ok (.aload_n 0, 1) := nq_d dX11_learntOf_0_g (n := 18) rfl
theorem dX11_learntOf_33 : decode cX11_learntOf 33 = .ok (.getfield 78, 3) := nq_d dX11_learntOf_0_g (n := 19) rfl
theorem dX11_learntOf_36 : decode cX11_learntOf 36 = .ok (.iload 7, 2) := nq_d dX11_learntOf_0_g (n := 20) rfl
theorem dX11_learntOf_38 : decode cX11_learntOf 38 = .ok (.iaload, 1) := nq_d dX11_learntOf_0_g (n := 21) rfl
theorem dX11_learntOf_39 : decode cX11_learntOf 39 = .ok (.iload_n 2, 1) := nq_d dX11_learntOf_0_g (n := 22) rfl
theorem dX11_learntOf_40 : decode cX11_learntOf 40 = .ok (.if_icmp .ne 71, 3) := nq_d dX11_learntOf_0_g (n := 23) rfl
theorem dX11_learntOf_43 : decode cX11_learntOf 43 = .ok (.iload 5, 2) := nq_d dX11_learntOf_0_g (n := 24) rfl
theorem dX11_learntOf_45 : decode cX11_learntOf 45 = .ok (.aload_n 0, 1) := nq_d dX11_learntOf_0_g (n := 25) rfl
theorem dX11_learntOf_46 : decode cX11_learntOf 46 = .ok (.getfield 81, 3) := nq_d dX11_learntOf_0_g (n := 26) rfl
theorem dX11_learntOf_49 : decode cX11_learntOf 49 = .ok (.iconst 3, 1) := nq_d dX11_learntOf_0_g (n := 27) rfl
theorem dX11_learntOf_50 : decode cX11_learntOf 50 = .ok (.iload 7, 2) := nq_d dX11_learntOf_0_g (n := 28) rfl
theorem dX11_learntOf_52 : decode cX11_learntOf 52 = .ok (.imul, 1) := nq_d dX11_learntOf_0_g (n := 29) rfl
theorem dX11_learntOf_53 : decode cX11_learntOf 53 = .ok (.iaload, 1) := nq_d dX11_learntOf_0_g (n := 30) rfl
theorem dX11_learntOf_54 : decode cX11_learntOf 54 = .ok (.iadd, 1) := nq_d dX11_learntOf_0_g (n := 31) rfl
theorem dX11_learntOf_55 : decode cX11_learntOf 55 = .ok (.istore 5, 2) := nq_d dX11_learntOf_0_g (n := 32) rfl
theorem dX11_learntOf_57 : decode cX11_learntOf 57 = .ok (.iload 6, 2) := nq_d dX11_learntOf_0_g (n := 33) rfl
theorem dX11_learntOf_59 : decode cX11_learntOf 59 = .ok (.aload_n 0, 1) := nq_d dX11_learntOf_0_g (n := 34) rfl
theorem dX11_learntOf_60 : decode cX11_learntOf 60 = .ok (.getfield 81, 3) := nq_d dX11_learntOf_0_g (n := 35) rfl
theorem dX11_learntOf_63 : decode cX11_learntOf 63 = .ok (.iconst 3, 1) := nq_d dX11_learntOf_0_g (n := 36) rfl
theorem dX11_learntOf_64 : decode cX11_learntOf 64 = .ok (.iload 7, 2) := nq_d dX11_learntOf_0_g (n := 37) rfl
theorem dX11_learntOf_66 : decode cX11_learntOf 66 = .ok (.imul, 1) := nq_d dX11_learntOf_0_g (n := 38) rfl
theorem dX11_learntOf_67 : decode cX11_learntOf 67 = .ok (.iconst 1, 1) := nq_d dX11_learntOf_0_g (n := 39) rfl
noncomputable def dX11_learntOf_68_l : List (Nat × Instr × Nat) := [(68, .iadd, 1), (69, .iaload, 1), (70, .iadd, 1), (71, .istore 6, 2), (73, .iload 4, 2), (75, .aload_n 0, 1), (76, .getfield 81, 3), (79, .iconst 3, 1), (80, .iload 7, 2), (82, .imul, 1), (83, .iaload, 1), (84, .aload_n 0, 1), (85, .getfield 81, 3), (88, .iconst 3, 1), (89, .iload 7, 2), (91, .imul, 1), (92, .iconst 1, 1), (93, .iadd, 1), (94, .iaload, 1), (95, .iadd, 1), (96, .aload_n 0, 1), (97, .getfield 81, 3), (100, .iconst 3, 1), (101, .iload 7, 2), (103, .imul, 1), (104, .iconst 2, 1), (105, .iadd, 1), (106, .iaload, 1), (107, .iadd, 1), (108, .iadd, 1), (109, .istore 4, 2), (111, .iinc 7 1, 3), (114, .goto (-102), 3), (117, .sipush 1000, 3), (120, .iload 5, 2), (122, .imul, 1), (123, .iload 4, 2), (125, .idiv, 1), (126, .istore 7, 2), (128, .sipush 1000, 3)]
set_option maxRecDepth 100000 in
theorem dX11_learntOf_68_g : dX11_learntOf_68_l.all (fun x => decide (decode cX11_learntOf x.1 = .ok x.2)) = true := by decide +kernel
theorem dX11_learntOf_68 : decode cX11_learntOf 68 = .ok (.iadd, 1) := nq_d dX11_learntOf_68_g (n := 0) rfl
theorem dX11_learntOf_69 : decode cX11_learntOf 69 = .ok (.iaload, 1) := nq_d dX11_learntOf_68_g (n := 1) rfl
theorem dX11_learntOf_70 : decode cX11_learntOf 70 = .ok (.iadd, 1) := nq_d dX11_learntOf_68_g (n := 2) rfl
theorem dX11_learntOf_71 : decode cX11_learntOf 71 = .ok (.istore 6, 2) := nq_d dX11_learntOf_68_g (n := 3) rfl
theorem dX11_learntOf_73 : decode cX11_learntOf 73 = .ok (.iload 4, 2) := nq_d dX11_learntOf_68_g (n := 4) rfl
theorem dX11_learntOf_75 : decode cX11_learntOf 75 = .ok (.aload_n 0, 1) := nq_d dX11_learntOf_68_g (n := 5) rfl
theorem dX11_learntOf_76 : decode cX11_learntOf 76 = .ok (.getfield 81, 3) := nq_d dX11_learntOf_68_g (n := 6) rfl
theorem dX11_learntOf_79 : decode cX11_learntOf 79 = .ok (.iconst 3, 1) := nq_d dX11_learntOf_68_g (n := 7) rfl
theorem dX11_learntOf_80 : decode cX11_learntOf 80 = .ok (.iload 7, 2) := nq_d dX11_learntOf_68_g (n := 8) rfl
theorem dX11_learntOf_82 : decode cX11_learntOf 82 = .ok (.imul, 1) := nq_d dX11_learntOf_68_g (n := 9) rfl
theorem dX11_learntOf_83 : decode cX11_learntOf 83 = .ok (.iaload, 1) := nq_d dX11_learntOf_68_g (n := 10) rfl
theorem dX11_learntOf_84 : decode cX11_learntOf 84 = .ok (.aload_n 0, 1) := nq_d dX11_learntOf_68_g (n := 11) rfl
theorem dX11_learntOf_85 : decode cX11_learntOf 85 = .ok (.getfield 81, 3) := nq_d dX11_learntOf_68_g (n := 12) rfl
theorem dX11_learntOf_88 : decode cX11_learntOf 88 = .ok (.iconst 3, 1) := nq_d dX11_learntOf_68_g (n := 13) rfl
theorem dX11_learntOf_89 : decode cX11_learntOf 89 = .ok (.iload 7, 2) := nq_d dX11_learntOf_68_g (n := 14) rfl
theorem dX11_learntOf_91 : decode cX11_learntOf 91 = .ok (.imul, 1) := nq_d dX11_learntOf_68_g (n := 15) rfl
theorem dX11_learntOf_92 : decode cX11_learntOf 92 = .ok (.iconst 1, 1) := nq_d dX11_learntOf_68_g (n := 16) rfl
theorem dX11_learntOf_93 : decode cX11_learntOf 93 = .ok (.iadd, 1) := nq_d dX11_learntOf_68_g (n := 17) rfl
theorem dX11_learntOf_94 : decode cX11_learntOf 94 = .ok (.iaload, 1) := nq_d dX11_learntOf_68_g (n := 18) rfl
theorem dX11_learntOf_95 : decode cX11_learntOf 95 = .ok (.iadd, 1) := nq_d dX11_learntOf_68_g (n := 19) rfl
theorem dX11_learntOf_96 : decode cX11_learntOf 96 = .ok (.aload_n 0, 1) := nq_d dX11_learntOf_68_g (n := 20) rfl
theorem dX11_learntOf_97 : decode cX11_learntOf 97 = .ok (.getfield 81, 3) := nq_d dX11_learntOf_68_g (n := 21) rfl
theorem dX11_learntOf_100 : decode cX11_learntOf 100 = .ok (.iconst 3, 1) := nq_d dX11_learntOf_68_g (n := 22) rfl
theorem dX11_learntOf_101 : decode cX11_learntOf 101 = .ok (.iload 7, 2) := nq_d dX11_learntOf_68_g (n := 23) rfl
theorem dX11_learntOf_103 : decode cX11_learntOf 103 = .ok (.imul, 1) := nq_d dX11_learntOf_68_g (n := 24) rfl
theorem dX11_learntOf_104 : decode cX11_learntOf 104 = .ok (.iconst 2, 1) := nq_d dX11_learntOf_68_g (n := 25) rfl
theorem dX11_learntOf_105 : decode cX11_learntOf 105 = .ok (.iadd, 1) := nq_d dX11_learntOf_68_g (n := 26) rfl
theorem dX11_learntOf_106 : decode cX11_learntOf 106 = .ok (.iaload, 1) := nq_d dX11_learntOf_68_g (n := 27) rfl
theorem dX11_learntOf_107 : decode cX11_learntOf 107 = .ok (.iadd, 1) := nq_d dX11_learntOf_68_g (n := 28) rfl
theorem dX11_learntOf_108 : decode cX11_learntOf 108 = .ok (.iadd, 1) := nq_d dX11_learntOf_68_g (n := 29) rfl
theorem dX11_learntOf_109 : decode cX11_learntOf 109 = .ok (.istore 4, 2) := nq_d dX11_learntOf_68_g (n := 30) rfl
theorem dX11_learntOf_111 : decode cX11_learntOf 111 = .ok (.iinc 7 1, 3) := nq_d dX11_learntOf_68_g (n := 31) rfl
theorem dX11_learntOf_114 : decode cX11_learntOf 114 = .ok (.goto (-102), 3) := nq_d dX11_learntOf_68_g (n := 32) rfl
theorem dX11_learntOf_117 : decode cX11_learntOf 117 = .ok (.sipush 1000, 3) := nq_d dX11_learntOf_68_g (n := 33) rfl
theorem dX11_learntOf_120 : decode cX11_learntOf 120 = .ok (.iload 5, 2) := nq_d dX11_learntOf_68_g (n := 34) rfl
theorem dX11_learntOf_122 : decode cX11_learntOf 122 = .ok (.imul, 1) := nq_d dX11_learntOf_68_g (n := 35) rfl
theorem dX11_learntOf_123 : decode cX11_learntOf 123 = .ok (.iload 4, 2) := nq_d dX11_learntOf_68_g (n := 36) rfl
theorem dX11_learntOf_125 : decode cX11_learntOf 125 = .ok (.idiv, 1) := nq_d dX11_learntOf_68_g (n := 37) rfl
theorem dX11_learntOf_126 : decode cX11_learntOf 126 = .ok (.istore 7, 2) := nq_d dX11_learntOf_68_g (n := 38) rfl
theorem dX11_learntOf_128 : decode cX11_learntOf 128 = .ok (.sipush 1000, 3) := nq_d dX11_learntOf_68_g (n := 39) rfl
noncomputable def dX11_learntOf_131_l : List (Nat × Instr × Nat) := [(131, .iload 6, 2), (133, .imul, 1), (134, .iload 4, 2), (136, .idiv, 1), (137, .istore 8, 2), (139, .iload_n 3, 1), (140, .ifCond .ne 8, 3), (143, .iload 7, 2), (145, .goto 22, 3), (148, .iload_n 3, 1), (149, .iconst 1, 1), (150, .if_icmp .ne 8, 3), (153, .iload 8, 2), (155, .goto 12, 3), (158, .sipush 1000, 3), (161, .iload 7, 2), (163, .isub, 1), (164, .iload 8, 2), (166, .isub, 1), (167, .ireturn, 1)]
set_option maxRecDepth 100000 in
theorem dX11_learntOf_131_g : dX11_learntOf_131_l.all (fun x => decide (decode cX11_learntOf x.1 = .ok x.2)) = true := by decide +kernel
theorem dX11_learntOf_131 : decode cX11_learntOf 131 = .ok (.iload 6, 2) := nq_d dX11_learntOf_131_g (n := 0) rfl
theorem dX11_learntOf_133 : decode cX11_learntOf 133 = .ok (.imul, 1) := nq_d dX11_learntOf_131_g (n := 1) rfl
theorem dX11_learntOf_134 : decode cX11_learntOf 134 = .ok (.iload 4, 2) := nq_d dX11_learntOf_131_g (n := 2) rfl
theorem dX11_learntOf_136 : decode cX11_learntOf 136 = .ok (.idiv, 1) := nq_d dX11_learntOf_131_g (n := 3) rfl
theorem dX11_learntOf_137 : decode cX11_learntOf 137 = .ok (.istore 8, 2) := nq_d dX11_learntOf_131_g (n := 4) rfl
theorem dX11_learntOf_139 : decode cX11_learntOf 139 = .ok (.iload_n 3, 1) := nq_d dX11_learntOf_131_g (n := 5) rfl
theorem dX11_learntOf_140 : decode cX11_learntOf 140 = .ok (.ifCond .ne 8, 3) := nq_d dX11_learntOf_131_g (n := 6) rfl
theorem dX11_learntOf_143 : decode cX11_learntOf 143 = .ok (.iload 7, 2) := nq_d dX11_learntOf_131_g (n := 7) rfl
theorem dX11_learntOf_145 : decode cX11_learntOf 145 = .ok (.goto 22, 3) := nq_d dX11_learntOf_131_g (n := 8) rfl
theorem dX11_learntOf_148 : decode cX11_learntOf 148 = .ok (.iload_n 3, 1) := nq_d dX11_learntOf_131_g (n := 9) rfl
theorem dX11_learntOf_149 : decode cX11_learntOf 149 = .ok (.iconst 1, 1) := nq_d dX11_learntOf_131_g (n := 10) rfl
theorem dX11_learntOf_150 : decode cX11_learntOf 150 = .ok (.if_icmp .ne 8, 3) := nq_d dX11_learntOf_131_g (n := 11) rfl
theorem dX11_learntOf_153 : decode cX11_learntOf 153 = .ok (.iload 8, 2) := nq_d dX11_learntOf_131_g (n := 12) rfl
theorem dX11_learntOf_155 : decode cX11_learntOf 155 = .ok (.goto 12, 3) := nq_d dX11_learntOf_131_g (n := 13) rfl
theorem dX11_learntOf_158 : decode cX11_learntOf 158 = .ok (.sipush 1000, 3) := nq_d dX11_learntOf_131_g (n := 14) rfl
theorem dX11_learntOf_161 : decode cX11_learntOf 161 = .ok (.iload 7, 2) := nq_d dX11_learntOf_131_g (n := 15) rfl
theorem dX11_learntOf_163 : decode cX11_learntOf 163 = .ok (.isub, 1) := nq_d dX11_learntOf_131_g (n := 16) rfl
theorem dX11_learntOf_164 : decode cX11_learntOf 164 = .ok (.iload 8, 2) := nq_d dX11_learntOf_131_g (n := 17) rfl
theorem dX11_learntOf_166 : decode cX11_learntOf 166 = .ok (.isub, 1) := nq_d dX11_learntOf_131_g (n := 18) rfl
theorem dX11_learntOf_167 : decode cX11_learntOf 167 = .ok (.ireturn, 1) := nq_d dX11_learntOf_131_g (n := 19) rfl
set_option maxRecDepth 100000 in
theorem ggX11_learnt_X11_isNight : GoodIn wsX11_learnt wsX11_isNight := goodIn_sub (sub_c (nq_m (n := 5) rfl) (sub_c (nq_m (n := 6) rfl) (sub_c (nq_m (n := 7) rfl) (sub_c (nq_m (n := 8) rfl) (sub_c (nq_m (n := 4) rfl) (sub_c (nq_m (n := 9) rfl) sub_n)))))) (by decide +kernel)
set_option maxRecDepth 100000 in
theorem gX11_learnt_X11_isNight : GoodIn wsX11_learnt (va_wsS RX11 278 yX11_isNight wsX11_isNight) := goodIn_app (goodIn_sub (sub_c (nq_m (n := 2) rfl) (sub_c (nq_m (n := 3) rfl) (sub_c (nq_m (n := 4) rfl) sub_n))) (by decide +kernel)) ggX11_learnt_X11_isNight
set_option maxRecDepth 100000 in
theorem ggX11_learnt_X11_in : GoodIn wsX11_learnt wsX11_in := goodIn_sub (sub_c (nq_m (n := 9) rfl) sub_n) (by decide +kernel)
set_option maxRecDepth 100000 in
theorem gX11_learnt_X11_in : GoodIn wsX11_learnt (va_wsS RX11 126 yX11_in wsX11_in) := goodIn_app (goodIn_sub (sub_c (nq_m (n := 7) rfl) (sub_c (nq_m (n := 8) rfl) (sub_c (nq_m (n := 4) rfl) sub_n))) (by decide +kernel)) ggX11_learnt_X11_in
set_option maxRecDepth 100000 in
theorem ggX11_learnt_X11_learntOf : GoodIn wsX11_learnt wsX11_learntOf := goodIn_sub (sub_c (nq_m (n := 13) rfl) (sub_c (nq_m (n := 14) rfl) (sub_c (nq_m (n := 15) rfl) (sub_c (nq_m (n := 16) rfl) (sub_c (nq_m (n := 17) rfl) (sub_c (nq_m (n := 18) rfl) (sub_c (nq_m (n := 19) rfl) (sub_c (nq_m (n := 20) rfl) (sub_c (nq_m (n := 21) rfl) (sub_c (nq_m (n := 22) rfl) (sub_c (nq_m (n := 23) rfl) (sub_c (nq_m (n := 24) rfl) (sub_c (nq_m (n := 25) rfl) (sub_c (nq_m (n := 26) rfl) (sub_c (nq_m (n := 27) rfl) (sub_c (nq_m (n := 28) rfl) (sub_c (nq_m (n := 29) rfl) (sub_c (nq_m (n := 30) rfl) (sub_c (nq_m (n := 31) rfl) (sub_c (nq_m (n := 32) rfl) (sub_c (nq_m (n := 33) rfl) (sub_c (nq_m (n := 34) rfl) (sub_c (nq_m (n := 35) rfl) (sub_c (nq_m (n := 36) rfl) (sub_c (nq_m (n := 37) rfl) (sub_c (nq_m (n := 38) rfl) (sub_c (nq_m (n := 39) rfl) (sub_c (nq_m (n := 40) rfl) (sub_c (nq_m (n := 41) rfl) (sub_c (nq_m (n := 42) rfl) (sub_c (nq_m (n := 43) rfl) (sub_c (nq_m (n := 44) rfl) (sub_c (nq_m (n := 45) rfl) (sub_c (nq_m (n := 46) rfl) (sub_c (nq_m (n := 47) rfl) (sub_c (nq_m (n := 48) rfl) (sub_c (nq_m (n := 49) rfl) (sub_c (nq_m (n := 50) rfl) (sub_c (nq_m (n := 51) rfl) (sub_c (nq_m (n := 52) rfl) (sub_c (nq_m (n := 53) rfl) (sub_c (nq_m (n := 54) rfl) (sub_c (nq_m (n := 55) rfl) (sub_c (nq_m (n := 56) rfl) (sub_c (nq_m (n := 57) rfl) (sub_c (nq_m (n := 58) rfl) (sub_c (nq_m (n := 59) rfl) (sub_c (nq_m (n := 60) rfl) (sub_c (nq_m (n := 61) rfl) (sub_c (nq_m (n := 62) rfl) (sub_c (nq_m (n := 63) rfl) (sub_c (nq_m (n := 64) rfl) (sub_c (nq_m (n := 65) rfl) (sub_c (nq_m (n := 66) rfl) (sub_c (nq_m (n := 67) rfl) (sub_c (nq_m (n := 68) rfl) (sub_c (nq_m (n := 69) rfl) (sub_c (nq_m (n := 70) rfl) (sub_c (nq_m (n := 71) rfl) (sub_c (nq_m (n := 72) rfl) (sub_c (nq_m (n := 73) rfl) (sub_c (nq_m (n := 74) rfl) (sub_c (nq_m (n := 75) rfl) sub_n))))))))))))))))))))))))))))))))))))))))))))))))))))))))))))))) (by decide +kernel)
set_option maxRecDepth 100000 in
theorem gX11_learnt_X11_learntOf : GoodIn wsX11_learnt (wsV RX11 251 RX11 yX11_learntOf wsX11_learntOf) := goodIn_app (goodIn_sub (sub_c (nq_m (n := 10) rfl) (sub_c (nq_m (n := 11) rfl) (sub_c (nq_m (n := 12) rfl) (sub_c (nq_m (n := 4) rfl) sub_n)))) (by decide +kernel)) ggX11_learnt_X11_learntOf
noncomputable def dX11_learnt_0_l : List (Nat × Instr × Nat) := [(0, .iload_n 1, 1), (1, .iload_n 2, 1), (2, .invokestatic 278, 3), (5, .ifCond .eq 25, 3), (8, .iload_n 3, 1), (9, .i2l, 1), (10, .lconst 0, 1), (11, .ldc2_w 236, 3), (14, .invokestatic 126, 3), (17, .ifCond .eq 13, 3), (20, .aload_n 0, 1), (21, .iload_n 1, 1), (22, .iload_n 2, 1), (23, .iload_n 3, 1), (24, .invokevirtual 251, 3), (27, .goto 6, 3), (30, .sipush (-1002), 3), (33, .ireturn, 1)]
set_option maxRecDepth 100000 in
theorem dX11_learnt_0_g : dX11_learnt_0_l.all (fun x => decide (decode cX11_learnt x.1 = .ok x.2)) = true := by decide +kernel
theorem dX11_learnt_0 : decode cX11_learnt 0 = .ok (.iload_n 1, 1) := nq_d dX11_learnt_0_g (n := 0) rfl
theorem dX11_learnt_1 : decode cX11_learnt 1 = .ok (.iload_n 2, 1) := nq_d dX11_learnt_0_g (n := 1) rfl
theorem dX11_learnt_2 : decode cX11_learnt 2 = .ok (.invokestatic 278, 3) := nq_d dX11_learnt_0_g (n := 2) rfl
theorem dX11_learnt_5 : decode cX11_learnt 5 = .ok (.ifCond .eq 25, 3) := nq_d dX11_learnt_0_g (n := 3) rfl
theorem dX11_learnt_8 : decode cX11_learnt 8 = .ok (.iload_n 3, 1) := nq_d dX11_learnt_0_g (n := 4) rfl
theorem dX11_learnt_9 : decode cX11_learnt 9 = .ok (.i2l, 1) := nq_d dX11_learnt_0_g (n := 5) rfl
theorem dX11_learnt_10 : decode cX11_learnt 10 = .ok (.lconst 0, 1) := nq_d dX11_learnt_0_g (n := 6) rfl
theorem dX11_learnt_11 : decode cX11_learnt 11 = .ok (.ldc2_w 236, 3) := nq_d dX11_learnt_0_g (n := 7) rfl
theorem dX11_learnt_14 : decode cX11_learnt 14 = .ok (.invokestatic 126, 3) := nq_d dX11_learnt_0_g (n := 8) rfl
theorem dX11_learnt_17 : decode cX11_learnt 17 = .ok (.ifCond .eq 13, 3) := nq_d dX11_learnt_0_g (n := 9) rfl
theorem dX11_learnt_20 : decode cX11_learnt 20 = .ok (.aload_n 0, 1) := nq_d dX11_learnt_0_g (n := 10) rfl
theorem dX11_learnt_21 : decode cX11_learnt 21 = .ok (.iload_n 1, 1) := nq_d dX11_learnt_0_g (n := 11) rfl
theorem dX11_learnt_22 : decode cX11_learnt 22 = .ok (.iload_n 2, 1) := nq_d dX11_learnt_0_g (n := 12) rfl
theorem dX11_learnt_23 : decode cX11_learnt 23 = .ok (.iload_n 3, 1) := nq_d dX11_learnt_0_g (n := 13) rfl
theorem dX11_learnt_24 : decode cX11_learnt 24 = .ok (.invokevirtual 251, 3) := nq_d dX11_learnt_0_g (n := 14) rfl
theorem dX11_learnt_27 : decode cX11_learnt 27 = .ok (.goto 6, 3) := nq_d dX11_learnt_0_g (n := 15) rfl
theorem dX11_learnt_30 : decode cX11_learnt 30 = .ok (.sipush (-1002), 3) := nq_d dX11_learnt_0_g (n := 16) rfl
theorem dX11_learnt_33 : decode cX11_learnt 33 = .ok (.ireturn, 1) := nq_d dX11_learnt_0_g (n := 17) rfl
set_option maxRecDepth 100000 in
theorem ggX11_tonight_X11_isNight : GoodIn wsX11_tonight wsX11_isNight := goodIn_sub (sub_c (nq_m (n := 6) rfl) (sub_c (nq_m (n := 7) rfl) (sub_c (nq_m (n := 8) rfl) (sub_c (nq_m (n := 9) rfl) (sub_c (nq_m (n := 5) rfl) (sub_c (nq_m (n := 10) rfl) sub_n)))))) (by decide +kernel)
set_option maxRecDepth 100000 in
theorem gX11_tonight_X11_isNight : GoodIn wsX11_tonight (va_wsS RX11 278 yX11_isNight wsX11_isNight) := goodIn_app (goodIn_sub (sub_c (nq_m (n := 3) rfl) (sub_c (nq_m (n := 4) rfl) (sub_c (nq_m (n := 5) rfl) sub_n))) (by decide +kernel)) ggX11_tonight_X11_isNight
noncomputable def dX11_tonight_0_l : List (Nat × Instr × Nat) := [(0, .iload_n 1, 1), (1, .iconst (-1), 1), (2, .if_icmp .eq 15, 3), (5, .iload_n 1, 1), (6, .iload_n 2, 1), (7, .invokestatic 278, 3), (10, .ifCond .ne 7, 3), (13, .sipush (-1002), 3), (16, .ireturn, 1), (17, .aload_n 0, 1), (18, .iload_n 1, 1), (19, .putfield 65, 3), (22, .aload_n 0, 1), (23, .iload_n 1, 1), (24, .iconst (-1), 1), (25, .if_icmp .ne 7, 3), (28, .iconst 0, 1), (29, .goto 4, 3), (32, .iload_n 2, 1), (33, .putfield 248, 3), (36, .iconst 1, 1), (37, .ireturn, 1)]
set_option maxRecDepth 100000 in
theorem dX11_tonight_0_g : dX11_tonight_0_l.all (fun x => decide (decode cX11_tonight x.1 = .ok x.2)) = true := by decide +kernel
theorem dX11_tonight_0 : decode cX11_tonight 0 = .ok (.iload_n 1, 1) := nq_d dX11_tonight_0_g (n := 0) rfl
theorem dX11_tonight_1 : decode cX11_tonight 1 = .ok (.iconst (-1), 1) := nq_d dX11_tonight_0_g (n := 1) rfl
theorem dX11_tonight_2 : decode cX11_tonight 2 = .ok (.if_icmp .eq 15, 3) := nq_d dX11_tonight_0_g (n := 2) rfl
theorem dX11_tonight_5 : decode cX11_tonight 5 = .ok (.iload_n 1, 1) := nq_d dX11_tonight_0_g (n := 3) rfl
theorem dX11_tonight_6 : decode cX11_tonight 6 = .ok (.iload_n 2, 1) := nq_d dX11_tonight_0_g (n := 4) rfl
theorem dX11_tonight_7 : decode cX11_tonight 7 = .ok (.invokestatic 278, 3) := nq_d dX11_tonight_0_g (n := 5) rfl
theorem dX11_tonight_10 : decode cX11_tonight 10 = .ok (.ifCond .ne 7, 3) := nq_d dX11_tonight_0_g (n := 6) rfl
theorem dX11_tonight_13 : decode cX11_tonight 13 = .ok (.sipush (-1002), 3) := nq_d dX11_tonight_0_g (n := 7) rfl
theorem dX11_tonight_16 : decode cX11_tonight 16 = .ok (.ireturn, 1) := nq_d dX11_tonight_0_g (n := 8) rfl
theorem dX11_tonight_17 : decode cX11_tonight 17 = .ok (.aload_n 0, 1) := nq_d dX11_tonight_0_g (n := 9) rfl
theorem dX11_tonight_18 : decode cX11_tonight 18 = .ok (.iload_n 1, 1) := nq_d dX11_tonight_0_g (n := 10) rfl
theorem dX11_tonight_19 : decode cX11_tonight 19 = .ok (.putfield 65, 3) := nq_d dX11_tonight_0_g (n := 11) rfl
theorem dX11_tonight_22 : decode cX11_tonight 22 = .ok (.aload_n 0, 1) := nq_d dX11_tonight_0_g (n := 12) rfl
theorem dX11_tonight_23 : decode cX11_tonight 23 = .ok (.iload_n 1, 1) := nq_d dX11_tonight_0_g (n := 13) rfl
theorem dX11_tonight_24 : decode cX11_tonight 24 = .ok (.iconst (-1), 1) := nq_d dX11_tonight_0_g (n := 14) rfl
theorem dX11_tonight_25 : decode cX11_tonight 25 = .ok (.if_icmp .ne 7, 3) := nq_d dX11_tonight_0_g (n := 15) rfl
theorem dX11_tonight_28 : decode cX11_tonight 28 = .ok (.iconst 0, 1) := nq_d dX11_tonight_0_g (n := 16) rfl
theorem dX11_tonight_29 : decode cX11_tonight 29 = .ok (.goto 4, 3) := nq_d dX11_tonight_0_g (n := 17) rfl
theorem dX11_tonight_32 : decode cX11_tonight 32 = .ok (.iload_n 2, 1) := nq_d dX11_tonight_0_g (n := 18) rfl
theorem dX11_tonight_33 : decode cX11_tonight 33 = .ok (.putfield 248, 3) := nq_d dX11_tonight_0_g (n := 19) rfl
theorem dX11_tonight_36 : decode cX11_tonight 36 = .ok (.iconst 1, 1) := nq_d dX11_tonight_0_g (n := 20) rfl
theorem dX11_tonight_37 : decode cX11_tonight 37 = .ok (.ireturn, 1) := nq_d dX11_tonight_0_g (n := 21) rfl
noncomputable def dX11_addEvent_0_l : List (Nat × Instr × Nat) := [(0, .bipush 7, 2), (2, .aload_n 0, 1), (3, .getfield 215, 3), (6, .imul, 1), (7, .istore 8, 2), (9, .aload_n 0, 1), (10, .getfield 84, 3), (13, .iload 8, 2), (15, .iload_n 1, 1), (16, .iastore, 1), (17, .aload_n 0, 1), (18, .getfield 84, 3), (21, .iload 8, 2), (23, .iconst 1, 1), (24, .iadd, 1), (25, .iload_n 2, 1), (26, .iastore, 1), (27, .aload_n 0, 1), (28, .getfield 84, 3), (31, .iload 8, 2), (33, .iconst 2, 1), (34, .iadd, 1), (35, .iload_n 3, 1), (36, .iastore, 1), (37, .aload_n 0, 1), (38, .getfield 84, 3), (41, .iload 8, 2), (43, .iconst 3, 1), (44, .iadd, 1), (45, .iload 4, 2), (47, .iastore, 1), (48, .aload_n 0, 1), (49, .getfield 84, 3), (52, .iload 8, 2), (54, .iconst 4, 1), (55, .iadd, 1), (56, .iload 5, 2), (58, .iastore, 1), (59, .aload_n 0, 1), (60, .getfield 84, 3)]
set_option maxRecDepth 100000 in
theorem dX11_addEvent_0_g : dX11_addEvent_0_l.all (fun x => decide (decode cX11_addEvent x.1 = .ok x.2)) = true := by decide +kernel
theorem dX11_addEvent_0 : decode cX11_addEvent 0 = .ok (.bipush 7, 2) := nq_d dX11_addEvent_0_g (n := 0) rfl
theorem dX11_addEvent_2 : decode cX11_addEvent 2 = .ok (.aload_n 0, 1) := nq_d dX11_addEvent_0_g (n := 1) rfl
theorem dX11_addEvent_3 : decode cX11_addEvent 3 = .ok (.getfield 215, 3) := nq_d dX11_addEvent_0_g (n := 2) rfl
theorem dX11_addEvent_6 : decode cX11_addEvent 6 = .ok (.imul, 1) := nq_d dX11_addEvent_0_g (n := 3) rfl
theorem dX11_addEvent_7 : decode cX11_addEvent 7 = .ok (.istore 8, 2) := nq_d dX11_addEvent_0_g (n := 4) rfl
theorem dX11_addEvent_9 : decode cX11_addEvent 9 = .ok (.aload_n 0, 1) := nq_d dX11_addEvent_0_g (n := 5) rfl
theorem dX11_addEvent_10 : decode cX11_addEvent 10 = .ok (.getfield 84, 3) := nq_d dX11_addEvent_0_g (n := 6) rfl
theorem dX11_addEvent_13 : decode cX11_addEvent 13 = .ok (.iload 8, 2) := nq_d dX11_addEvent_0_g (n := 7) rfl
theorem dX11_addEvent_15 : decode cX11_addEvent 15 = .ok (.iload_n 1, 1) := nq_d dX11_addEvent_0_g (n := 8) rfl
theorem dX11_addEvent_16 : decode cX11_addEvent 16 = .ok (.iastore, 1) := nq_d dX11_addEvent_0_g (n := 9) rfl
theorem dX11_addEvent_17 : decode cX11_addEvent 17 = .ok (.aload_n 0, 1) := nq_d dX11_addEvent_0_g (n := 10) rfl
theorem dX11_addEvent_18 : decode cX11_addEvent 18 = .ok (.getfield 84, 3) := nq_d dX11_addEvent_0_g (n := 11) rfl
theorem dX11_addEvent_21 : decode cX11_addEvent 21 = .ok (.iload 8, 2) := nq_d dX11_addEvent_0_g (n := 12) rfl
theorem dX11_addEvent_23 : decode cX11_addEvent 23 = .ok (.iconst 1, 1) := nq_d dX11_addEvent_0_g (n := 13) rfl
theorem dX11_addEvent_24 : decode cX11_addEvent 24 = .ok (.iadd, 1) := nq_d dX11_addEvent_0_g (n := 14) rfl
theorem dX11_addEvent_25 : decode cX11_addEvent 25 = .ok (.iload_n 2, 1) := nq_d dX11_addEvent_0_g (n := 15) rfl
theorem dX11_addEvent_26 : decode cX11_addEvent 26 = .ok (.iastore, 1) := nq_d dX11_addEvent_0_g (n := 16) rfl
theorem dX11_addEvent_27 : decode cX11_addEvent 27 = .ok (.aload_n 0, 1) := nq_d dX11_addEvent_0_g (n := 17) rfl
theorem dX11_addEvent_28 : decode cX11_addEvent 28 = .ok (.getfield 84, 3) := nq_d dX11_addEvent_0_g (n := 18) rfl
theorem dX11_addEvent_31 : decode cX11_addEvent 31 = .ok (.iload 8, 2) := nq_d dX11_addEvent_0_g (n := 19) rfl
theorem dX11_addEvent_33 : decode cX11_addEvent 33 = .ok (.iconst 2, 1) := nq_d dX11_addEvent_0_g (n := 20) rfl
theorem dX11_addEvent_34 : decode cX11_addEvent 34 = .ok (.iadd, 1) := nq_d dX11_addEvent_0_g (n := 21) rfl
theorem dX11_addEvent_35 : decode cX11_addEvent 35 = .ok (.iload_n 3, 1) := nq_d dX11_addEvent_0_g (n := 22) rfl
theorem dX11_addEvent_36 : decode cX11_addEvent 36 = .ok (.iastore, 1) := nq_d dX11_addEvent_0_g (n := 23) rfl
theorem dX11_addEvent_37 : decode cX11_addEvent 37 = .ok (.aload_n 0, 1) := nq_d dX11_addEvent_0_g (n := 24) rfl
theorem dX11_addEvent_38 : decode cX11_addEvent 38 = .ok (.getfield 84, 3) := nq_d dX11_addEvent_0_g (n := 25) rfl
theorem dX11_addEvent_41 : decode cX11_addEvent 41 = .ok (.iload 8, 2) := nq_d dX11_addEvent_0_g (n := 26) rfl
theorem dX11_addEvent_43 : decode cX11_addEvent 43 = .ok (.iconst 3, 1) := nq_d dX11_addEvent_0_g (n := 27) rfl
theorem dX11_addEvent_44 : decode cX11_addEvent 44 = .ok (.iadd, 1) := nq_d dX11_addEvent_0_g (n := 28) rfl
theorem dX11_addEvent_45 : decode cX11_addEvent 45 = .ok (.iload 4, 2) := nq_d dX11_addEvent_0_g (n := 29) rfl
theorem dX11_addEvent_47 : decode cX11_addEvent 47 = .ok (.iastore, 1) := nq_d dX11_addEvent_0_g (n := 30) rfl
theorem dX11_addEvent_48 : decode cX11_addEvent 48 = .ok (.aload_n 0, 1) := nq_d dX11_addEvent_0_g (n := 31) rfl
theorem dX11_addEvent_49 : decode cX11_addEvent 49 = .ok (.getfield 84, 3) := nq_d dX11_addEvent_0_g (n := 32) rfl
theorem dX11_addEvent_52 : decode cX11_addEvent 52 = .ok (.iload 8, 2) := nq_d dX11_addEvent_0_g (n := 33) rfl
theorem dX11_addEvent_54 : decode cX11_addEvent 54 = .ok (.iconst 4, 1) := nq_d dX11_addEvent_0_g (n := 34) rfl
theorem dX11_addEvent_55 : decode cX11_addEvent 55 = .ok (.iadd, 1) := nq_d dX11_addEvent_0_g (n := 35) rfl
theorem dX11_addEvent_56 : decode cX11_addEvent 56 = .ok (.iload 5, 2) := nq_d dX11_addEvent_0_g (n := 36) rfl
theorem dX11_addEvent_58 : decode cX11_addEvent 58 = .ok (.iastore, 1) := nq_d dX11_addEvent_0_g (n := 37) rfl
theorem dX11_addEvent_59 : decode cX11_addEvent 59 = .ok (.aload_n 0, 1) := nq_d dX11_addEvent_0_g (n := 38) rfl
theorem dX11_addEvent_60 : decode cX11_addEvent 60 = .ok (.getfield 84, 3) := nq_d dX11_addEvent_0_g (n := 39) rfl
noncomputable def dX11_addEvent_63_l : List (Nat × Instr × Nat) := [(63, .iload 8, 2), (65, .iconst 5, 1), (66, .iadd, 1), (67, .iload 6, 2), (69, .iastore, 1), (70, .aload_n 0, 1), (71, .getfield 84, 3), (74, .iload 8, 2), (76, .bipush 6, 2), (78, .iadd, 1), (79, .iload 7, 2), (81, .ifCond .eq 7, 3), (84, .iconst 1, 1), (85, .goto 4, 3), (88, .iconst 0, 1), (89, .iastore, 1), (90, .aload_n 0, 1), (91, .dup, 1), (92, .getfield 215, 3), (95, .iconst 1, 1), (96, .iadd, 1), (97, .putfield 215, 3), (100, .aload_n 0, 1), (101, .getfield 215, 3), (104, .iconst 1, 1), (105, .isub, 1), (106, .ireturn, 1)]
set_option maxRecDepth 100000 in
theorem dX11_addEvent_63_g : dX11_addEvent_63_l.all (fun x => decide (decode cX11_addEvent x.1 = .ok x.2)) = true := by decide +kernel
theorem dX11_addEvent_63 : decode cX11_addEvent 63 = .ok (.iload 8, 2) := nq_d dX11_addEvent_63_g (n := 0) rfl
theorem dX11_addEvent_65 : decode cX11_addEvent 65 = .ok (.iconst 5, 1) := nq_d dX11_addEvent_63_g (n := 1) rfl
theorem dX11_addEvent_66 : decode cX11_addEvent 66 = .ok (.iadd, 1) := nq_d dX11_addEvent_63_g (n := 2) rfl
theorem dX11_addEvent_67 : decode cX11_addEvent 67 = .ok (.iload 6, 2) := nq_d dX11_addEvent_63_g (n := 3) rfl
theorem dX11_addEvent_69 : decode cX11_addEvent 69 = .ok (.iastore, 1) := nq_d dX11_addEvent_63_g (n := 4) rfl
theorem dX11_addEvent_70 : decode cX11_addEvent 70 = .ok (.aload_n 0, 1) := nq_d dX11_addEvent_63_g (n := 5) rfl
theorem dX11_addEvent_71 : decode cX11_addEvent 71 = .ok (.getfield 84, 3) := nq_d dX11_addEvent_63_g (n := 6) rfl
theorem dX11_addEvent_74 : decode cX11_addEvent 74 = .ok (.iload 8, 2) := nq_d dX11_addEvent_63_g (n := 7) rfl
theorem dX11_addEvent_76 : decode cX11_addEvent 76 = .ok (.bipush 6, 2) := nq_d dX11_addEvent_63_g (n := 8) rfl
theorem dX11_addEvent_78 : decode cX11_addEvent 78 = .ok (.iadd, 1) := nq_d dX11_addEvent_63_g (n := 9) rfl
theorem dX11_addEvent_79 : decode cX11_addEvent 79 = .ok (.iload 7, 2) := nq_d dX11_addEvent_63_g (n := 10) rfl
theorem dX11_addEvent_81 : decode cX11_addEvent 81 = .ok (.ifCond .eq 7, 3) := nq_d dX11_addEvent_63_g (n := 11) rfl
theorem dX11_addEvent_84 : decode cX11_addEvent 84 = .ok (.iconst 1, 1) := nq_d dX11_addEvent_63_g (n := 12) rfl
theorem dX11_addEvent_85 : decode cX11_addEvent 85 = .ok (.goto 4, 3) := nq_d dX11_addEvent_63_g (n := 13) rfl
theorem dX11_addEvent_88 : decode cX11_addEvent 88 = .ok (.iconst 0, 1) := nq_d dX11_addEvent_63_g (n := 14) rfl
theorem dX11_addEvent_89 : decode cX11_addEvent 89 = .ok (.iastore, 1) := nq_d dX11_addEvent_63_g (n := 15) rfl
theorem dX11_addEvent_90 : decode cX11_addEvent 90 = .ok (.aload_n 0, 1) := nq_d dX11_addEvent_63_g (n := 16) rfl
theorem dX11_addEvent_91 : decode cX11_addEvent 91 = .ok (.dup, 1) := nq_d dX11_addEvent_63_g (n := 17) rfl
theorem dX11_addEvent_92 : decode cX11_addEvent 92 = .ok (.getfield 215, 3) := nq_d dX11_addEvent_63_g (n := 18) rfl
theorem dX11_addEvent_95 : decode cX11_addEvent 95 = .ok (.iconst 1, 1) := nq_d dX11_addEvent_63_g (n := 19) rfl
theorem dX11_addEvent_96 : decode cX11_addEvent 96 = .ok (.iadd, 1) := nq_d dX11_addEvent_63_g (n := 20) rfl
theorem dX11_addEvent_97 : decode cX11_addEvent 97 = .ok (.putfield 215, 3) := nq_d dX11_addEvent_63_g (n := 21) rfl
theorem dX11_addEvent_100 : decode cX11_addEvent 100 = .ok (.aload_n 0, 1) := nq_d dX11_addEvent_63_g (n := 22) rfl
theorem dX11_addEvent_101 : decode cX11_addEvent 101 = .ok (.getfield 215, 3) := nq_d dX11_addEvent_63_g (n := 23) rfl
theorem dX11_addEvent_104 : decode cX11_addEvent 104 = .ok (.iconst 1, 1) := nq_d dX11_addEvent_63_g (n := 24) rfl
theorem dX11_addEvent_105 : decode cX11_addEvent 105 = .ok (.isub, 1) := nq_d dX11_addEvent_63_g (n := 25) rfl
theorem dX11_addEvent_106 : decode cX11_addEvent 106 = .ok (.ireturn, 1) := nq_d dX11_addEvent_63_g (n := 26) rfl
set_option maxRecDepth 100000 in
theorem ggX11_isHand_X11_in : GoodIn wsX11_isHand wsX11_in := goodIn_sub (sub_c (nq_m (n := 5) rfl) sub_n) (by decide +kernel)
set_option maxRecDepth 100000 in
theorem gX11_isHand_X11_in : GoodIn wsX11_isHand (va_wsS RX11 126 yX11_in wsX11_in) := goodIn_app (goodIn_sub (sub_c (nq_m (n := 2) rfl) (sub_c (nq_m (n := 3) rfl) (sub_c (nq_m (n := 4) rfl) sub_n))) (by decide +kernel)) ggX11_isHand_X11_in
noncomputable def dX11_isHand_0_l : List (Nat × Instr × Nat) := [(0, .iload_n 0, 1), (1, .i2l, 1), (2, .lconst 0, 1), (3, .ldc2_w 234, 3), (6, .invokestatic 126, 3), (9, .ireturn, 1)]
set_option maxRecDepth 100000 in
theorem dX11_isHand_0_g : dX11_isHand_0_l.all (fun x => decide (decode cX11_isHand x.1 = .ok x.2)) = true := by decide +kernel
theorem dX11_isHand_0 : decode cX11_isHand 0 = .ok (.iload_n 0, 1) := nq_d dX11_isHand_0_g (n := 0) rfl
theorem dX11_isHand_1 : decode cX11_isHand 1 = .ok (.i2l, 1) := nq_d dX11_isHand_0_g (n := 1) rfl
theorem dX11_isHand_2 : decode cX11_isHand 2 = .ok (.lconst 0, 1) := nq_d dX11_isHand_0_g (n := 2) rfl
theorem dX11_isHand_3 : decode cX11_isHand 3 = .ok (.ldc2_w 234, 3) := nq_d dX11_isHand_0_g (n := 3) rfl
theorem dX11_isHand_6 : decode cX11_isHand 6 = .ok (.invokestatic 126, 3) := nq_d dX11_isHand_0_g (n := 4) rfl
theorem dX11_isHand_9 : decode cX11_isHand 9 = .ok (.ireturn, 1) := nq_d dX11_isHand_0_g (n := 5) rfl
noncomputable def dX11_isBrassOut_0_l : List (Nat × Instr × Nat) := [(0, .iconst 0, 1), (1, .istore_n 2, 1), (2, .iconst 0, 1), (3, .istore_n 3, 1), (4, .iload_n 3, 1), (5, .aload_n 0, 1), (6, .getfield 227, 3), (9, .if_icmp .ge 29, 3), (12, .iload_n 2, 1), (13, .ifCond .ne 13, 3), (16, .aload_n 0, 1), (17, .getfield 56, 3), (20, .iload_n 3, 1), (21, .iaload, 1), (22, .iload_n 1, 1), (23, .if_icmp .ne 7, 3), (26, .iconst 1, 1), (27, .goto 4, 3), (30, .iconst 0, 1), (31, .istore_n 2, 1), (32, .iinc 3 1, 3), (35, .goto (-31), 3), (38, .iload_n 2, 1), (39, .ireturn, 1)]
set_option maxRecDepth 100000 in
theorem dX11_isBrassOut_0_g : dX11_isBrassOut_0_l.all (fun x => decide (decode cX11_isBrassOut x.1 = .ok x.2)) = true := by decide +kernel
theorem dX11_isBrassOut_0 : decode cX11_isBrassOut 0 = .ok (.iconst 0, 1) := nq_d dX11_isBrassOut_0_g (n := 0) rfl
theorem dX11_isBrassOut_1 : decode cX11_isBrassOut 1 = .ok (.istore_n 2, 1) := nq_d dX11_isBrassOut_0_g (n := 1) rfl
theorem dX11_isBrassOut_2 : decode cX11_isBrassOut 2 = .ok (.iconst 0, 1) := nq_d dX11_isBrassOut_0_g (n := 2) rfl
theorem dX11_isBrassOut_3 : decode cX11_isBrassOut 3 = .ok (.istore_n 3, 1) := nq_d dX11_isBrassOut_0_g (n := 3) rfl
theorem dX11_isBrassOut_4 : decode cX11_isBrassOut 4 = .ok (.iload_n 3, 1) := nq_d dX11_isBrassOut_0_g (n := 4) rfl
theorem dX11_isBrassOut_5 : decode cX11_isBrassOut 5 = .ok (.aload_n 0, 1) := nq_d dX11_isBrassOut_0_g (n := 5) rfl
theorem dX11_isBrassOut_6 : decode cX11_isBrassOut 6 = .ok (.getfield 227, 3) := nq_d dX11_isBrassOut_0_g (n := 6) rfl
theorem dX11_isBrassOut_9 : decode cX11_isBrassOut 9 = .ok (.if_icmp .ge 29, 3) := nq_d dX11_isBrassOut_0_g (n := 7) rfl
theorem dX11_isBrassOut_12 : decode cX11_isBrassOut 12 = .ok (.iload_n 2, 1) := nq_d dX11_isBrassOut_0_g (n := 8) rfl
theorem dX11_isBrassOut_13 : decode cX11_isBrassOut 13 = .ok (.ifCond .ne 13, 3) := nq_d dX11_isBrassOut_0_g (n := 9) rfl
theorem dX11_isBrassOut_16 : decode cX11_isBrassOut 16 = .ok (.aload_n 0, 1) := nq_d dX11_isBrassOut_0_g (n := 10) rfl
theorem dX11_isBrassOut_17 : decode cX11_isBrassOut 17 = .ok (.getfield 56, 3) := nq_d dX11_isBrassOut_0_g (n := 11) rfl
theorem dX11_isBrassOut_20 : decode cX11_isBrassOut 20 = .ok (.iload_n 3, 1) := nq_d dX11_isBrassOut_0_g (n := 12) rfl
theorem dX11_isBrassOut_21 : decode cX11_isBrassOut 21 = .ok (.iaload, 1) := nq_d dX11_isBrassOut_0_g (n := 13) rfl
theorem dX11_isBrassOut_22 : decode cX11_isBrassOut 22 = .ok (.iload_n 1, 1) := nq_d dX11_isBrassOut_0_g (n := 14) rfl
theorem dX11_isBrassOut_23 : decode cX11_isBrassOut 23 = .ok (.if_icmp .ne 7, 3) := nq_d dX11_isBrassOut_0_g (n := 15) rfl
theorem dX11_isBrassOut_26 : decode cX11_isBrassOut 26 = .ok (.iconst 1, 1) := nq_d dX11_isBrassOut_0_g (n := 16) rfl
theorem dX11_isBrassOut_27 : decode cX11_isBrassOut 27 = .ok (.goto 4, 3) := nq_d dX11_isBrassOut_0_g (n := 17) rfl
theorem dX11_isBrassOut_30 : decode cX11_isBrassOut 30 = .ok (.iconst 0, 1) := nq_d dX11_isBrassOut_0_g (n := 18) rfl
theorem dX11_isBrassOut_31 : decode cX11_isBrassOut 31 = .ok (.istore_n 2, 1) := nq_d dX11_isBrassOut_0_g (n := 19) rfl
theorem dX11_isBrassOut_32 : decode cX11_isBrassOut 32 = .ok (.iinc 3 1, 3) := nq_d dX11_isBrassOut_0_g (n := 20) rfl
theorem dX11_isBrassOut_35 : decode cX11_isBrassOut 35 = .ok (.goto (-31), 3) := nq_d dX11_isBrassOut_0_g (n := 21) rfl
theorem dX11_isBrassOut_38 : decode cX11_isBrassOut 38 = .ok (.iload_n 2, 1) := nq_d dX11_isBrassOut_0_g (n := 22) rfl
theorem dX11_isBrassOut_39 : decode cX11_isBrassOut 39 = .ok (.ireturn, 1) := nq_d dX11_isBrassOut_0_g (n := 23) rfl
set_option maxRecDepth 100000 in
theorem ggX11_hang_X11_isHand : GoodIn wsX11_hang wsX11_isHand := goodIn_sub (sub_c (nq_m (n := 11) rfl) (sub_c (nq_m (n := 12) rfl) (sub_c (nq_m (n := 13) rfl) (sub_c (nq_m (n := 14) rfl) (sub_c (nq_m (n := 10) rfl) (sub_c (nq_m (n := 15) rfl) sub_n)))))) (by decide +kernel)
set_option maxRecDepth 100000 in
theorem gX11_hang_X11_isHand : GoodIn wsX11_hang (va_wsS RX11 284 yX11_isHand wsX11_isHand) := goodIn_app (goodIn_sub (sub_c (nq_m (n := 8) rfl) (sub_c (nq_m (n := 9) rfl) (sub_c (nq_m (n := 10) rfl) sub_n))) (by decide +kernel)) ggX11_hang_X11_isHand
set_option maxRecDepth 100000 in
theorem ggX11_hang_X11_isGuest : GoodIn wsX11_hang wsX11_isGuest := goodIn_sub (sub_c (nq_m (n := 19) rfl) (sub_c (nq_m (n := 20) rfl) (sub_c (nq_m (n := 13) rfl) (sub_c (nq_m (n := 14) rfl) (sub_c (nq_m (n := 10) rfl) (sub_c (nq_m (n := 15) rfl) (sub_c (nq_m (n := 41) rfl) (sub_c (nq_m (n := 42) rfl) (sub_c (nq_m (n := 43) rfl) (sub_c (nq_m (n := 44) rfl) (sub_c (nq_m (n := 45) rfl) (sub_c (nq_m (n := 46) rfl) (sub_c (nq_m (n := 47) rfl) (sub_c (nq_m (n := 48) rfl) (sub_c (nq_m (n := 49) rfl) (sub_c (nq_m (n := 50) rfl) (sub_c (nq_m (n := 51) rfl) (sub_c (nq_m (n := 52) rfl) (sub_c (nq_m (n := 53) rfl) (sub_c (nq_m (n := 54) rfl) (sub_c (nq_m (n := 55) rfl) (sub_c (nq_m (n := 56) rfl) (sub_c (nq_m (n := 57) rfl) (sub_c (nq_m (n := 58) rfl) (sub_c (nq_m (n := 59) rfl) (sub_c (nq_m (n := 60) rfl) (sub_c (nq_m (n := 61) rfl) (sub_c (nq_m (n := 62) rfl) (sub_c (nq_m (n := 63) rfl) (sub_c (nq_m (n := 64) rfl) (sub_c (nq_m (n := 65) rfl) (sub_c (nq_m (n := 66) rfl) (sub_c (nq_m (n := 67) rfl) (sub_c (nq_m (n := 68) rfl) (sub_c (nq_m (n := 69) rfl) (sub_c (nq_m (n := 70) rfl) (sub_c (nq_m (n := 71) rfl) (sub_c (nq_m (n := 72) rfl) (sub_c (nq_m (n := 73) rfl) (sub_c (nq_m (n := 74) rfl) (sub_c (nq_m (n := 75) rfl) (sub_c (nq_m (n := 76) rfl) (sub_c (nq_m (n := 77) rfl) (sub_c (nq_m (n := 78) rfl) (sub_c (nq_m (n := 79) rfl) (sub_c (nq_m (n := 80) rfl) (sub_c (nq_m (n := 81) rfl) (sub_c (nq_m (n := 82) rfl) (sub_c (nq_m (n := 83) rfl) (sub_c (nq_m (n := 84) rfl) (sub_c (nq_m (n := 85) rfl) (sub_c (nq_m (n := 86) rfl) (sub_c (nq_m (n := 87) rfl) (sub_c (nq_m (n := 88) rfl) (sub_c (nq_m (n := 89) rfl) (sub_c (nq_m (n := 90) rfl) (sub_c (nq_m (n := 91) rfl) (sub_c (nq_m (n := 92) rfl) (sub_c (nq_m (n := 93) rfl) (sub_c (nq_m (n := 94) rfl) (sub_c (nq_m (n := 95) rfl) (sub_c (nq_m (n := 96) rfl) (sub_c (nq_m (n := 97) rfl) (sub_c (nq_m (n := 98) rfl) sub_n)))))))))))))))))))))))))))))))))))))))))))))))))))))))))))))))) (by decide +kernel)
set_option maxRecDepth 100000 in
theorem gX11_hang_X11_isGuest : GoodIn wsX11_hang (wsV RX11 255 RX11 yX11_isGuest wsX11_isGuest) := goodIn_app (goodIn_sub (sub_c (nq_m (n := 16) rfl) (sub_c (nq_m (n := 17) rfl) (sub_c (nq_m (n := 18) rfl) (sub_c (nq_m (n := 10) rfl) sub_n)))) (by decide +kernel)) ggX11_hang_X11_isGuest
set_option maxRecDepth 100000 in
theorem ggX11_hang_X11_isPeg : GoodIn wsX11_hang wsX11_isPeg := goodIn_sub (sub_c (nq_m (n := 24) rfl) (sub_c (nq_m (n := 25) rfl) (sub_c (nq_m (n := 13) rfl) (sub_c (nq_m (n := 14) rfl) (sub_c (nq_m (n := 10) rfl) (sub_c (nq_m (n := 15) rfl) (sub_c (nq_m (n := 41) rfl) (sub_c (nq_m (n := 42) rfl) (sub_c (nq_m (n := 43) rfl) (sub_c (nq_m (n := 44) rfl) (sub_c (nq_m (n := 45) rfl) (sub_c (nq_m (n := 46) rfl) (sub_c (nq_m (n := 47) rfl) (sub_c (nq_m (n := 48) rfl) (sub_c (nq_m (n := 49) rfl) (sub_c (nq_m (n := 50) rfl) (sub_c (nq_m (n := 51) rfl) (sub_c (nq_m (n := 52) rfl) (sub_c (nq_m (n := 53) rfl) (sub_c (nq_m (n := 54) rfl) (sub_c (nq_m (n := 55) rfl) (sub_c (nq_m (n := 56) rfl) (sub_c (nq_m (n := 57) rfl) (sub_c (nq_m (n := 58) rfl) (sub_c (nq_m (n := 59) rfl) (sub_c (nq_m (n := 60) rfl) (sub_c (nq_m (n := 61) rfl) (sub_c (nq_m (n := 62) rfl) (sub_c (nq_m (n := 63) rfl) (sub_c (nq_m (n := 64) rfl) (sub_c (nq_m (n := 65) rfl) (sub_c (nq_m (n := 66) rfl) (sub_c (nq_m (n := 67) rfl) (sub_c (nq_m (n := 68) rfl) (sub_c (nq_m (n := 69) rfl) (sub_c (nq_m (n := 70) rfl) (sub_c (nq_m (n := 71) rfl) (sub_c (nq_m (n := 72) rfl) (sub_c (nq_m (n := 73) rfl) (sub_c (nq_m (n := 74) rfl) (sub_c (nq_m (n := 75) rfl) (sub_c (nq_m (n := 76) rfl) (sub_c (nq_m (n := 77) rfl) (sub_c (nq_m (n := 78) rfl) (sub_c (nq_m (n := 79) rfl) (sub_c (nq_m (n := 80) rfl) (sub_c (nq_m (n := 81) rfl) (sub_c (nq_m (n := 82) rfl) (sub_c (nq_m (n := 83) rfl) (sub_c (nq_m (n := 84) rfl) (sub_c (nq_m (n := 85) rfl) (sub_c (nq_m (n := 86) rfl) (sub_c (nq_m (n := 87) rfl) (sub_c (nq_m (n := 88) rfl) (sub_c (nq_m (n := 89) rfl) (sub_c (nq_m (n := 90) rfl) (sub_c (nq_m (n := 91) rfl) (sub_c (nq_m (n := 92) rfl) (sub_c (nq_m (n := 93) rfl) (sub_c (nq_m (n := 94) rfl) (sub_c (nq_m (n := 95) rfl) (sub_c (nq_m (n := 96) rfl) (sub_c (nq_m (n := 97) rfl) (sub_c (nq_m (n := 98) rfl) sub_n)))))))))))))))))))))))))))))))))))))))))))))))))))))))))))))))) (by decide +kernel)
set_option maxRecDepth 100000 in
theorem gX11_hang_X11_isPeg : GoodIn wsX11_hang (wsV RX11 230 RX11 yX11_isPeg wsX11_isPeg) := goodIn_app (goodIn_sub (sub_c (nq_m (n := 21) rfl) (sub_c (nq_m (n := 22) rfl) (sub_c (nq_m (n := 23) rfl) (sub_c (nq_m (n := 10) rfl) sub_n)))) (by decide +kernel)) ggX11_hang_X11_isPeg
set_option maxRecDepth 100000 in
theorem ggX11_hang_X11_in : GoodIn wsX11_hang wsX11_in := goodIn_sub (sub_c (nq_m (n := 15) rfl) sub_n) (by decide +kernel)
set_option maxRecDepth 100000 in
theorem gX11_hang_X11_in : GoodIn wsX11_hang (va_wsS RX11 126 yX11_in wsX11_in) := goodIn_app (goodIn_sub (sub_c (nq_m (n := 13) rfl) (sub_c (nq_m (n := 14) rfl) (sub_c (nq_m (n := 10) rfl) sub_n))) (by decide +kernel)) ggX11_hang_X11_in
set_option maxRecDepth 100000 in
theorem ggX11_hang_X11_hasClaim : GoodIn wsX11_hang wsX11_hasClaim := goodIn_sub (sub_c (nq_m (n := 29) rfl) (sub_c (nq_m (n := 30) rfl) (sub_c (nq_m (n := 31) rfl) (sub_c (nq_m (n := 41) rfl) (sub_c (nq_m (n := 42) rfl) (sub_c (nq_m (n := 43) rfl) (sub_c (nq_m (n := 44) rfl) (sub_c (nq_m (n := 45) rfl) (sub_c (nq_m (n := 46) rfl) (sub_c (nq_m (n := 47) rfl) (sub_c (nq_m (n := 48) rfl) (sub_c (nq_m (n := 49) rfl) (sub_c (nq_m (n := 50) rfl) (sub_c (nq_m (n := 51) rfl) (sub_c (nq_m (n := 52) rfl) (sub_c (nq_m (n := 53) rfl) (sub_c (nq_m (n := 54) rfl) (sub_c (nq_m (n := 55) rfl) (sub_c (nq_m (n := 56) rfl) (sub_c (nq_m (n := 57) rfl) (sub_c (nq_m (n := 58) rfl) (sub_c (nq_m (n := 59) rfl) (sub_c (nq_m (n := 60) rfl) (sub_c (nq_m (n := 61) rfl) (sub_c (nq_m (n := 62) rfl) (sub_c (nq_m (n := 63) rfl) (sub_c (nq_m (n := 64) rfl) (sub_c (nq_m (n := 65) rfl) (sub_c (nq_m (n := 66) rfl) (sub_c (nq_m (n := 67) rfl) (sub_c (nq_m (n := 68) rfl) (sub_c (nq_m (n := 69) rfl) (sub_c (nq_m (n := 70) rfl) (sub_c (nq_m (n := 71) rfl) (sub_c (nq_m (n := 72) rfl) (sub_c (nq_m (n := 73) rfl) (sub_c (nq_m (n := 74) rfl) (sub_c (nq_m (n := 75) rfl) (sub_c (nq_m (n := 76) rfl) (sub_c (nq_m (n := 77) rfl) (sub_c (nq_m (n := 78) rfl) (sub_c (nq_m (n := 79) rfl) (sub_c (nq_m (n := 80) rfl) (sub_c (nq_m (n := 81) rfl) (sub_c (nq_m (n := 82) rfl) (sub_c (nq_m (n := 83) rfl) (sub_c (nq_m (n := 84) rfl) (sub_c (nq_m (n := 85) rfl) (sub_c (nq_m (n := 86) rfl) (sub_c (nq_m (n := 87) rfl) (sub_c (nq_m (n := 88) rfl) (sub_c (nq_m (n := 89) rfl) (sub_c (nq_m (n := 90) rfl) (sub_c (nq_m (n := 91) rfl) (sub_c (nq_m (n := 92) rfl) (sub_c (nq_m (n := 93) rfl) (sub_c (nq_m (n := 94) rfl) (sub_c (nq_m (n := 95) rfl) (sub_c (nq_m (n := 96) rfl) (sub_c (nq_m (n := 97) rfl) (sub_c (nq_m (n := 98) rfl) sub_n))))))))))))))))))))))))))))))))))))))))))))))))))))))))))))) (by decide +kernel)
set_option maxRecDepth 100000 in
theorem gX11_hang_X11_hasClaim : GoodIn wsX11_hang (wsV RX11 289 RX11 yX11_hasClaim wsX11_hasClaim) := goodIn_app (goodIn_sub (sub_c (nq_m (n := 26) rfl) (sub_c (nq_m (n := 27) rfl) (sub_c (nq_m (n := 28) rfl) (sub_c (nq_m (n := 10) rfl) sub_n)))) (by decide +kernel)) ggX11_hang_X11_hasClaim
set_option maxRecDepth 100000 in
theorem ggX11_hang_X11_isBrassOut : GoodIn wsX11_hang wsX11_isBrassOut := goodIn_sub (sub_c (nq_m (n := 35) rfl) (sub_c (nq_m (n := 20) rfl) (sub_c (nq_m (n := 7) rfl) (sub_c (nq_m (n := 41) rfl) (sub_c (nq_m (n := 42) rfl) (sub_c (nq_m (n := 43) rfl) (sub_c (nq_m (n := 44) rfl) (sub_c (nq_m (n := 45) rfl) (sub_c (nq_m (n := 46) rfl) (sub_c (nq_m (n := 47) rfl) (sub_c (nq_m (n := 48) rfl) (sub_c (nq_m (n := 49) rfl) (sub_c (nq_m (n := 50) rfl) (sub_c (nq_m (n := 51) rfl) (sub_c (nq_m (n := 52) rfl) (sub_c (nq_m (n := 53) rfl) (sub_c (nq_m (n := 54) rfl) (sub_c (nq_m (n := 55) rfl) (sub_c (nq_m (n := 56) rfl) (sub_c (nq_m (n := 57) rfl) (sub_c (nq_m (n := 58) rfl) (sub_c (nq_m (n := 59) rfl) (sub_c (nq_m (n := 60) rfl) (sub_c (nq_m (n := 61) rfl) (sub_c (nq_m (n := 62) rfl) (sub_c (nq_m (n := 63) rfl) (sub_c (nq_m (n := 64) rfl) (sub_c (nq_m (n := 65) rfl) (sub_c (nq_m (n := 66) rfl) (sub_c (nq_m (n := 67) rfl) (sub_c (nq_m (n := 68) rfl) (sub_c (nq_m (n := 69) rfl) (sub_c (nq_m (n := 70) rfl) (sub_c (nq_m (n := 71) rfl) (sub_c (nq_m (n := 72) rfl) (sub_c (nq_m (n := 73) rfl) (sub_c (nq_m (n := 74) rfl) (sub_c (nq_m (n := 75) rfl) (sub_c (nq_m (n := 76) rfl) (sub_c (nq_m (n := 77) rfl) (sub_c (nq_m (n := 78) rfl) (sub_c (nq_m (n := 79) rfl) (sub_c (nq_m (n := 80) rfl) (sub_c (nq_m (n := 81) rfl) (sub_c (nq_m (n := 82) rfl) (sub_c (nq_m (n := 83) rfl) (sub_c (nq_m (n := 84) rfl) (sub_c (nq_m (n := 85) rfl) (sub_c (nq_m (n := 86) rfl) (sub_c (nq_m (n := 87) rfl) (sub_c (nq_m (n := 88) rfl) (sub_c (nq_m (n := 89) rfl) (sub_c (nq_m (n := 90) rfl) (sub_c (nq_m (n := 91) rfl) (sub_c (nq_m (n := 92) rfl) (sub_c (nq_m (n := 93) rfl) (sub_c (nq_m (n := 94) rfl) (sub_c (nq_m (n := 95) rfl) (sub_c (nq_m (n := 96) rfl) (sub_c (nq_m (n := 97) rfl) (sub_c (nq_m (n := 98) rfl) sub_n))))))))))))))))))))))))))))))))))))))))))))))))))))))))))))) (by decide +kernel)
set_option maxRecDepth 100000 in
theorem gX11_hang_X11_isBrassOut : GoodIn wsX11_hang (wsV RX11 292 RX11 yX11_isBrassOut wsX11_isBrassOut) := goodIn_app (goodIn_sub (sub_c (nq_m (n := 32) rfl) (sub_c (nq_m (n := 33) rfl) (sub_c (nq_m (n := 34) rfl) (sub_c (nq_m (n := 10) rfl) sub_n)))) (by decide +kernel)) ggX11_hang_X11_isBrassOut
set_option maxRecDepth 100000 in
theorem ggX11_hang_X11_addEvent : GoodIn wsX11_hang wsX11_addEvent := goodIn_sub (sub_c (nq_m (n := 39) rfl) (sub_c (nq_m (n := 6) rfl) (sub_c (nq_m (n := 40) rfl) (sub_c (nq_m (n := 41) rfl) (sub_c (nq_m (n := 42) rfl) (sub_c (nq_m (n := 43) rfl) (sub_c (nq_m (n := 44) rfl) (sub_c (nq_m (n := 45) rfl) (sub_c (nq_m (n := 46) rfl) (sub_c (nq_m (n := 47) rfl) (sub_c (nq_m (n := 48) rfl) (sub_c (nq_m (n := 49) rfl) (sub_c (nq_m (n := 50) rfl) (sub_c (nq_m (n := 51) rfl) (sub_c (nq_m (n := 52) rfl) (sub_c (nq_m (n := 53) rfl) (sub_c (nq_m (n := 54) rfl) (sub_c (nq_m (n := 55) rfl) (sub_c (nq_m (n := 56) rfl) (sub_c (nq_m (n := 57) rfl) (sub_c (nq_m (n := 58) rfl) (sub_c (nq_m (n := 59) rfl) (sub_c (nq_m (n := 60) rfl) (sub_c (nq_m (n := 61) rfl) (sub_c (nq_m (n := 62) rfl) (sub_c (nq_m (n := 63) rfl) (sub_c (nq_m (n := 64) rfl) (sub_c (nq_m (n := 65) rfl) (sub_c (nq_m (n := 66) rfl) (sub_c (nq_m (n := 67) rfl) (sub_c (nq_m (n := 68) rfl) (sub_c (nq_m (n := 69) rfl) (sub_c (nq_m (n := 70) rfl) (sub_c (nq_m (n := 71) rfl) (sub_c (nq_m (n := 72) rfl) (sub_c (nq_m (n := 73) rfl) (sub_c (nq_m (n := 74) rfl) (sub_c (nq_m (n := 75) rfl) (sub_c (nq_m (n := 76) rfl) (sub_c (nq_m (n := 77) rfl) (sub_c (nq_m (n := 78) rfl) (sub_c (nq_m (n := 79) rfl) (sub_c (nq_m (n := 80) rfl) (sub_c (nq_m (n := 81) rfl) (sub_c (nq_m (n := 82) rfl) (sub_c (nq_m (n := 83) rfl) (sub_c (nq_m (n := 84) rfl) (sub_c (nq_m (n := 85) rfl) (sub_c (nq_m (n := 86) rfl) (sub_c (nq_m (n := 87) rfl) (sub_c (nq_m (n := 88) rfl) (sub_c (nq_m (n := 89) rfl) (sub_c (nq_m (n := 90) rfl) (sub_c (nq_m (n := 91) rfl) (sub_c (nq_m (n := 92) rfl) (sub_c (nq_m (n := 93) rfl) (sub_c (nq_m (n := 94) rfl) (sub_c (nq_m (n := 95) rfl) (sub_c (nq_m (n := 96) rfl) (sub_c (nq_m (n := 97) rfl) (sub_c (nq_m (n := 98) rfl) sub_n))))))))))))))))))))))))))))))))))))))))))))))))))))))))))))) (by decide +kernel)
set_option maxRecDepth 100000 in
theorem gX11_hang_X11_addEvent : GoodIn wsX11_hang (wsV RX11 295 RX11 yX11_addEvent wsX11_addEvent) := goodIn_app (goodIn_sub (sub_c (nq_m (n := 36) rfl) (sub_c (nq_m (n := 37) rfl) (sub_c (nq_m (n := 38) rfl) (sub_c (nq_m (n := 10) rfl) sub_n)))) (by decide +kernel)) ggX11_hang_X11_addEvent
noncomputable def dX11_hang_0_l : List (Nat × Instr × Nat) := [(0, .iload_n 1, 1), (1, .invokestatic 284, 3), (4, .ifCond .eq 19, 3), (7, .aload_n 0, 1), (8, .iload_n 2, 1), (9, .invokevirtual 255, 3), (12, .ifCond .eq 11, 3), (15, .aload_n 0, 1), (16, .iload_n 3, 1), (17, .invokevirtual 230, 3), (20, .ifCond .ne 7, 3), (23, .sipush (-1001), 3), (26, .ireturn, 1), (27, .iload 4, 2), (29, .i2l, 1), (30, .lconst 0, 1), (31, .ldc2_w 287, 3), (34, .invokestatic 126, 3), (37, .ifCond .ne 7, 3), (40, .sipush (-1002), 3), (43, .ireturn, 1), (44, .aload_n 0, 1), (45, .getfield 62, 3), (48, .iload_n 2, 1), (49, .iaload, 1), (50, .ifCond .ge 44, 3), (53, .aload_n 0, 1), (54, .iload_n 2, 1), (55, .invokevirtual 289, 3), (58, .ifCond .ne 36, 3), (61, .aload_n 0, 1), (62, .getfield 7, 3), (65, .iload_n 3, 1), (66, .iaload, 1), (67, .aload_n 0, 1), (68, .getfield 47, 3), (71, .iload_n 2, 1), (72, .iaload, 1), (73, .if_icmp .ne 21, 3), (76, .aload_n 0, 1)]
set_option maxRecDepth 100000 in
theorem dX11_hang_0_g : dX11_hang_0_l.all (fun x => decide (decode cX11_hang x.1 = .ok x.2)) = true := by decide +kernel
theorem dX11_hang_0 : decode cX11_hang 0 = .ok (.iload_n 1, 1) := nq_d dX11_hang_0_g (n := 0) rfl
theorem dX11_hang_1 : decode cX11_hang 1 = .ok (.invokestatic 284, 3) := nq_d dX11_hang_0_g (n := 1) rfl
theorem dX11_hang_4 : decode cX11_hang 4 = .ok (.ifCond .eq 19, 3) := nq_d dX11_hang_0_g (n := 2) rfl
theorem dX11_hang_7 : decode cX11_hang 7 = .ok (.aload_n 0, 1) := nq_d dX11_hang_0_g (n := 3) rfl
theorem dX11_hang_8 : decode cX11_hang 8 = .ok (.iload_n 2, 1) := nq_d dX11_hang_0_g (n := 4) rfl
theorem dX11_hang_9 : decode cX11_hang 9 = .ok (.invokevirtual 255, 3) := nq_d dX11_hang_0_g (n := 5) rfl
theorem dX11_hang_12 : decode cX11_hang 12 = .ok (.ifCond .eq 11, 3) := nq_d dX11_hang_0_g (n := 6) rfl
theorem dX11_hang_15 : decode cX11_hang 15 = .ok (.aload_n 0, 1) := nq_d dX11_hang_0_g (n := 7) rfl
theorem dX11_hang_16 : decode cX11_hang 16 = .ok (.iload_n 3, 1) := nq_d dX11_hang_0_g (n := 8) rfl
theorem dX11_hang_17 : decode cX11_hang 17 = .ok (.invokevirtual 230, 3) := nq_d dX11_hang_0_g (n := 9) rfl
theorem dX11_hang_20 : decode cX11_hang 20 = .ok (.ifCond .ne 7, 3) := nq_d dX11_hang_0_g (n := 10) rfl
theorem dX11_hang_23 : decode cX11_hang 23 = .ok (.sipush (-1001), 3) := nq_d dX11_hang_0_g (n := 11) rfl
theorem dX11_hang_26 : decode cX11_hang 26 = .ok (.ireturn, 1) := nq_d dX11_hang_0_g (n := 12) rfl
theorem dX11_hang_27 : decode cX11_hang 27 = .ok (.iload 4, 2) := nq_d dX11_hang_0_g (n := 13) rfl
theorem dX11_hang_29 : decode cX11_hang 29 = .ok (.i2l, 1) := nq_d dX11_hang_0_g (n := 14) rfl
theorem dX11_hang_30 : decode cX11_hang 30 = .ok (.lconst 0, 1) := nq_d dX11_hang_0_g (n := 15) rfl
theorem dX11_hang_31 : decode cX11_hang 31 = .ok (.ldc2_w 287, 3) := nq_d dX11_hang_0_g (n := 16) rfl
theorem dX11_hang_34 : decode cX11_hang 34 = .ok (.invokestatic 126, 3) := nq_d dX11_hang_0_g (n := 17) rfl
theorem dX11_hang_37 : decode cX11_hang 37 = .ok (.ifCond .ne 7, 3) := nq_d dX11_hang_0_g (n := 18) rfl
theorem dX11_hang_40 : decode cX11_hang 40 = .ok (.sipush (-1002), 3) := nq_d dX11_hang_0_g (n := 19) rfl
theorem dX11_hang_43 : decode cX11_hang 43 = .ok (.ireturn, 1) := nq_d dX11_hang_0_g (n := 20) rfl
theorem dX11_hang_44 : decode cX11_hang 44 = .ok (.aload_n 0, 1) := nq_d dX11_hang_0_g (n := 21) rfl
theorem dX11_hang_45 : decode cX11_hang 45 = .ok (.getfield 62, 3) := nq_d dX11_hang_0_g (n := 22) rfl
theorem dX11_hang_48 : decode cX11_hang 48 = .ok (.iload_n 2, 1) := nq_d dX11_hang_0_g (n := 23) rfl
theorem dX11_hang_49 : decode cX11_hang 49 = .ok (.iaload, 1) := nq_d dX11_hang_0_g (n := 24) rfl
theorem dX11_hang_50 : decode cX11_hang 50 = .ok (.ifCond .ge 44, 3) := nq_d dX11_hang_0_g (n := 25) rfl
theorem dX11_hang_53 : decode cX11_hang 53 = .ok (.aload_n 0, 1) := nq_d dX11_hang_0_g (n := 26) rfl
theorem dX11_hang_54 : decode cX11_hang 54 = .ok (.iload_n 2, 1) := nq_d dX11_hang_0_g (n := 27) rfl
theorem dX11_hang_55 : decode cX11_hang 55 = .ok (.invokevirtual 289, 3) := nq_d dX11_hang_0_g (n := 28) rfl
theorem dX11_hang_58 : decode cX11_hang 58 = .ok (.ifCond .ne 36, 3) := nq_d dX11_hang_0_g (n := 29) rfl
theorem dX11_hang_61 : decode cX11_hang 61 = .ok (.aload_n 0, 1) := nq_d dX11_hang_0_g (n := 30) rfl
theorem dX11_hang_62 : decode cX11_hang 62 = .ok (.getfield 7, 3) := nq_d dX11_hang_0_g (n := 31) rfl
theorem dX11_hang_65 : decode cX11_hang 65 = .ok (.iload_n 3, 1) := nq_d dX11_hang_0_g (n := 32) rfl
theorem dX11_hang_66 : decode cX11_hang 66 = .ok (.iaload, 1) := nq_d dX11_hang_0_g (n := 33) rfl
theorem dX11_hang_67 : decode cX11_hang 67 = .ok (.aload_n 0, 1) := nq_d dX11_hang_0_g (n := 34) rfl
theorem dX11_hang_68 : decode cX11_hang 68 = .ok (.getfield 47, 3) := nq_d dX11_hang_0_g (n := 35) rfl
theorem dX11_hang_71 : decode cX11_hang 71 = .ok (.iload_n 2, 1) := nq_d dX11_hang_0_g (n := 36) rfl
theorem dX11_hang_72 : decode cX11_hang 72 = .ok (.iaload, 1) := nq_d dX11_hang_0_g (n := 37) rfl
theorem dX11_hang_73 : decode cX11_hang 73 = .ok (.if_icmp .ne 21, 3) := nq_d dX11_hang_0_g (n := 38) rfl
theorem dX11_hang_76 : decode cX11_hang 76 = .ok (.aload_n 0, 1) := nq_d dX11_hang_0_g (n := 39) rfl
noncomputable def dX11_hang_77_l : List (Nat × Instr × Nat) := [(77, .getfield 41, 3), (80, .iload_n 3, 1), (81, .iaload, 1), (82, .ifCond .ge 12, 3), (85, .aload_n 0, 1), (86, .iload 4, 2), (88, .invokevirtual 292, 3), (91, .ifCond .eq 7, 3), (94, .sipush (-1003), 3), (97, .ireturn, 1), (98, .aload_n 0, 1), (99, .getfield 215, 3), (102, .bipush 60, 2), (104, .if_icmp .ne 7, 3), (107, .sipush (-1004), 3), (110, .ireturn, 1), (111, .aload_n 0, 1), (112, .getfield 41, 3), (115, .iload_n 3, 1), (116, .iload_n 2, 1), (117, .iastore, 1), (118, .aload_n 0, 1), (119, .getfield 56, 3), (122, .iload_n 2, 1), (123, .iload 4, 2), (125, .iastore, 1), (126, .aload_n 0, 1), (127, .getfield 62, 3), (130, .iload_n 2, 1), (131, .aload_n 0, 1), (132, .getfield 215, 3), (135, .iastore, 1), (136, .aload_n 0, 1), (137, .iconst 0, 1), (138, .iload_n 1, 1), (139, .iload_n 2, 1), (140, .iload_n 3, 1), (141, .iload 4, 2), (143, .iload_n 2, 1), (144, .iload 4, 2)]
set_option maxRecDepth 100000 in
theorem dX11_hang_77_g : dX11_hang_77_l.all (fun x => decide (decode cX11_hang x.1 = .ok x.2)) = true := by decide +kernel
theorem dX11_hang_77 : decode cX11_hang 77 = .ok (.getfield 41, 3) := nq_d dX11_hang_77_g (n := 0) rfl
theorem dX11_hang_80 : decode cX11_hang 80 = .ok (.iload_n 3, 1) := nq_d dX11_hang_77_g (n := 1) rfl
theorem dX11_hang_81 : decode cX11_hang 81 = .ok (.iaload, 1) := nq_d dX11_hang_77_g (n := 2) rfl
theorem dX11_hang_82 : decode cX11_hang 82 = .ok (.ifCond .ge 12, 3) := nq_d dX11_hang_77_g (n := 3) rfl
theorem dX11_hang_85 : decode cX11_hang 85 = .ok (.aload_n 0, 1) := nq_d dX11_hang_77_g (n := 4) rfl
theorem dX11_hang_86 : decode cX11_hang 86 = .ok (.iload 4, 2) := nq_d dX11_hang_77_g (n := 5) rfl
theorem dX11_hang_88 : decode cX11_hang 88 = .ok (.invokevirtual 292, 3) := nq_d dX11_hang_77_g (n := 6) rfl
theorem dX11_hang_91 : decode cX11_hang 91 = .ok (.ifCond .eq 7, 3) := nq_d dX11_hang_77_g (n := 7) rfl
theorem dX11_hang_94 : decode cX11_hang 94 = .ok (.sipush (-1003), 3) := nq_d dX11_hang_77_g (n := 8) rfl
theorem dX11_hang_97 : decode cX11_hang 97 = .ok (.ireturn, 1) := nq_d dX11_hang_77_g (n := 9) rfl
theorem dX11_hang_98 : decode cX11_hang 98 = .ok (.aload_n 0, 1) := nq_d dX11_hang_77_g (n := 10) rfl
theorem dX11_hang_99 : decode cX11_hang 99 = .ok (.getfield 215, 3) := nq_d dX11_hang_77_g (n := 11) rfl
theorem dX11_hang_102 : decode cX11_hang 102 = .ok (.bipush 60, 2) := nq_d dX11_hang_77_g (n := 12) rfl
theorem dX11_hang_104 : decode cX11_hang 104 = .ok (.if_icmp .ne 7, 3) := nq_d dX11_hang_77_g (n := 13) rfl
theorem dX11_hang_107 : decode cX11_hang 107 = .ok (.sipush (-1004), 3) := nq_d dX11_hang_77_g (n := 14) rfl
theorem dX11_hang_110 : decode cX11_hang 110 = .ok (.ireturn, 1) := nq_d dX11_hang_77_g (n := 15) rfl
theorem dX11_hang_111 : decode cX11_hang 111 = .ok (.aload_n 0, 1) := nq_d dX11_hang_77_g (n := 16) rfl
theorem dX11_hang_112 : decode cX11_hang 112 = .ok (.getfield 41, 3) := nq_d dX11_hang_77_g (n := 17) rfl
theorem dX11_hang_115 : decode cX11_hang 115 = .ok (.iload_n 3, 1) := nq_d dX11_hang_77_g (n := 18) rfl
theorem dX11_hang_116 : decode cX11_hang 116 = .ok (.iload_n 2, 1) := nq_d dX11_hang_77_g (n := 19) rfl
theorem dX11_hang_117 : decode cX11_hang 117 = .ok (.iastore, 1) := nq_d dX11_hang_77_g (n := 20) rfl
theorem dX11_hang_118 : decode cX11_hang 118 = .ok (.aload_n 0, 1) := nq_d dX11_hang_77_g (n := 21) rfl
theorem dX11_hang_119 : decode cX11_hang 119 = .ok (.getfield 56, 3) := nq_d dX11_hang_77_g (n := 22) rfl
theorem dX11_hang_122 : decode cX11_hang 122 = .ok (.iload_n 2, 1) := nq_d dX11_hang_77_g (n := 23) rfl
theorem dX11_hang_123 : decode cX11_hang 123 = .ok (.iload 4, 2) := nq_d dX11_hang_77_g (n := 24) rfl
theorem dX11_hang_125 : decode cX11_hang 125 = .ok (.iastore, 1) := nq_d dX11_hang_77_g (n := 25) rfl
theorem dX11_hang_126 : decode cX11_hang 126 = .ok (.aload_n 0, 1) := nq_d dX11_hang_77_g (n := 26) rfl
theorem dX11_hang_127 : decode cX11_hang 127 = .ok (.getfield 62, 3) := nq_d dX11_hang_77_g (n := 27) rfl
theorem dX11_hang_130 : decode cX11_hang 130 = .ok (.iload_n 2, 1) := nq_d dX11_hang_77_g (n := 28) rfl
theorem dX11_hang_131 : decode cX11_hang 131 = .ok (.aload_n 0, 1) := nq_d dX11_hang_77_g (n := 29) rfl
theorem dX11_hang_132 : decode cX11_hang 132 = .ok (.getfield 215, 3) := nq_d dX11_hang_77_g (n := 30) rfl
theorem dX11_hang_135 : decode cX11_hang 135 = .ok (.iastore, 1) := nq_d dX11_hang_77_g (n := 31) rfl
theorem dX11_hang_136 : decode cX11_hang 136 = .ok (.aload_n 0, 1) := nq_d dX11_hang_77_g (n := 32) rfl
theorem dX11_hang_137 : decode cX11_hang 137 = .ok (.iconst 0, 1) := nq_d dX11_hang_77_g (n := 33) rfl
theorem dX11_hang_138 : decode cX11_hang 138 = .ok (.iload_n 1, 1) := nq_d dX11_hang_77_g (n := 34) rfl
theorem dX11_hang_139 : decode cX11_hang 139 = .ok (.iload_n 2, 1) := nq_d dX11_hang_77_g (n := 35) rfl
theorem dX11_hang_140 : decode cX11_hang 140 = .ok (.iload_n 3, 1) := nq_d dX11_hang_77_g (n := 36) rfl
theorem dX11_hang_141 : decode cX11_hang 141 = .ok (.iload 4, 2) := nq_d dX11_hang_77_g (n := 37) rfl
theorem dX11_hang_143 : decode cX11_hang 143 = .ok (.iload_n 2, 1) := nq_d dX11_hang_77_g (n := 38) rfl
theorem dX11_hang_144 : decode cX11_hang 144 = .ok (.iload 4, 2) := nq_d dX11_hang_77_g (n := 39) rfl
noncomputable def dX11_hang_146_l : List (Nat × Instr × Nat) := [(146, .iload_n 3, 1), (147, .if_icmp .eq 7, 3), (150, .iconst 1, 1), (151, .goto 4, 3), (154, .iconst 0, 1), (155, .invokevirtual 295, 3), (158, .ireturn, 1)]
set_option maxRecDepth 100000 in
theorem dX11_hang_146_g : dX11_hang_146_l.all (fun x => decide (decode cX11_hang x.1 = .ok x.2)) = true := by decide +kernel
theorem dX11_hang_146 : decode cX11_hang 146 = .ok (.iload_n 3, 1) := nq_d dX11_hang_146_g (n := 0) rfl
theorem dX11_hang_147 : decode cX11_hang 147 = .ok (.if_icmp .eq 7, 3) := nq_d dX11_hang_146_g (n := 1) rfl
theorem dX11_hang_150 : decode cX11_hang 150 = .ok (.iconst 1, 1) := nq_d dX11_hang_146_g (n := 2) rfl
theorem dX11_hang_151 : decode cX11_hang 151 = .ok (.goto 4, 3) := nq_d dX11_hang_146_g (n := 3) rfl
theorem dX11_hang_154 : decode cX11_hang 154 = .ok (.iconst 0, 1) := nq_d dX11_hang_146_g (n := 4) rfl
theorem dX11_hang_155 : decode cX11_hang 155 = .ok (.invokevirtual 295, 3) := nq_d dX11_hang_146_g (n := 5) rfl
