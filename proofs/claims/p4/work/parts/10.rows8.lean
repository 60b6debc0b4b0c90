theorem dX11_fitting_82 : decode cX11_fitting 82 = .ok (.iload 8, 2) := nq_d dX11_fitting_76_g (n := 4) rfl
theorem dX11_fitting_84 : decode cX11_fitting 84 = .ok (.iand, 1) := nq_d dX11_fitting_76_g (n := 5) rfl
theorem dX11_fitting_85 : decode cX11_fitting 85 = .ok (.ifCond .ne 10, 3) := nq_d dX11_fitting_76_g (n := 6) rfl
theorem dX11_fitting_88 : decode cX11_fitting 88 = .ok (.iconst 1, 1) := nq_d dX11_fitting_76_g (n := 7) rfl
theorem dX11_fitting_89 : decode cX11_fitting 89 = .ok (.iload 6, 2) := nq_d dX11_fitting_76_g (n := 8) rfl
theorem dX11_fitting_91 : decode cX11_fitting 91 = .ok (.ishl, 1) := nq_d dX11_fitting_76_g (n := 9) rfl
theorem dX11_fitting_92 : decode cX11_fitting 92 = .ok (.goto 4, 3) := nq_d dX11_fitting_76_g (n := 10) rfl
theorem dX11_fitting_95 : decode cX11_fitting 95 = .ok (.iconst 0, 1) := nq_d dX11_fitting_76_g (n := 11) rfl
theorem dX11_fitting_96 : decode cX11_fitting 96 = .ok (.ior, 1) := nq_d dX11_fitting_76_g (n := 12) rfl
theorem dX11_fitting_97 : decode cX11_fitting 97 = .ok (.istore 4, 2) := nq_d dX11_fitting_76_g (n := 13) rfl
theorem dX11_fitting_99 : decode cX11_fitting 99 = .ok (.iinc 5 1, 3) := nq_d dX11_fitting_76_g (n := 14) rfl
theorem dX11_fitting_102 : decode cX11_fitting 102 = .ok (.goto (-96), 3) := nq_d dX11_fitting_76_g (n := 15) rfl
theorem dX11_fitting_105 : decode cX11_fitting 105 = .ok (.iload 4, 2) := nq_d dX11_fitting_76_g (n := 16) rfl
theorem dX11_fitting_107 : decode cX11_fitting 107 = .ok (.ireturn, 1) := nq_d dX11_fitting_76_g (n := 17) rfl
set_option maxRecDepth 100000 in
theorem ggX11_fitsOf_X11_fitting : GoodIn wsX11_fitsOf wsX11_fitting := goodIn_sub (sub_c (nq_m (n := 9) rfl) (sub_c (nq_m (n := 10) rfl) (sub_c (nq_m (n := 11) rfl) (sub_c (nq_m (n := 12) rfl) (sub_c (nq_m (n := 13) rfl) (sub_c (nq_m (n := 14) rfl) (sub_c (nq_m (n := 15) rfl) (sub_c (nq_m (n := 16) rfl) (sub_c (nq_m (n := 17) rfl) (sub_c (nq_m (n := 18) rfl) (sub_c (nq_m (n := 19) rfl) (sub_c (nq_m (n := 20) rfl) (sub_c (nq_m (n := 21) rfl) (sub_c (nq_m (n := 22) rfl) (sub_c (nq_m (n := 23) rfl) (sub_c (nq_m (n := 24) rfl) (sub_c (nq_m (n := 25) rfl) (sub_c (nq_m (n := 26) rfl) (sub_c (nq_m (n := 27) rfl) (sub_c (nq_m (n := 28) rfl) (sub_c (nq_m (n := 29) rfl) (sub_c (nq_m (n := 30) rfl) (sub_c (nq_m (n := 31) rfl) (sub_c (nq_m (n := 32) rfl) (sub_c (nq_m (n := 33) rfl) (sub_c (nq_m (n := 34) rfl) (sub_c (nq_m (n := 35) rfl) (sub_c (nq_m (n := 36) rfl) (sub_c (nq_m (n := 37) rfl) (sub_c (nq_m (n := 38) rfl) (sub_c (nq_m (n := 39) rfl) (sub_c (nq_m (n := 40) rfl) (sub_c (nq_m (n := 41) rfl) (sub_c (nq_m (n := 42) rfl) (sub_c (nq_m (n := 43) rfl) (sub_c (nq_m (n := 44) rfl) (sub_c (nq_m (n := 45) rfl) (sub_c (nq_m (n := 46) rfl) (sub_c (nq_m (n := 47) rfl) (sub_c (nq_m (n := 48) rfl) (sub_c (nq_m (n := 49) rfl) (sub_c (nq_m (n := 50) rfl) (sub_c (nq_m (n := 51) rfl) (sub_c (nq_m (n := 52) rfl) (sub_c (nq_m (n := 53) rfl) (sub_c (nq_m (n := 54) rfl) (sub_c (nq_m (n := 55) rfl) (sub_c (nq_m (n := 56) rfl) (sub_c (nq_m (n := 57) rfl) (sub_c (nq_m (n := 58) rfl) (sub_c (nq_m (n := 59) rfl) (sub_c (nq_m (n := 60) rfl) (sub_c (nq_m (n := 61) rfl) (sub_c (nq_m (n := 62) rfl) (sub_c (nq_m (n := 63) rfl) (sub_c (nq_m (n := 64) rfl) (sub_c (nq_m (n := 65) rfl) (sub_c (nq_m (n := 66) rfl) (sub_c (nq_m (n := 67) rfl) (sub_c (nq_m (n := 68) rfl) (sub_c (nq_m (n := 69) rfl) (sub_c (nq_m (n := 70) rfl) (sub_c (nq_m (n := 71) rfl) sub_n))))))))))))))))))))))))))))))))))))))))))))))))))))))))))))))) (by decide +kernel)
set_option maxRecDepth 100000 in
theorem gX11_fitsOf_X11_fitting : GoodIn wsX11_fitsOf (wsV RX11 350 RX11 yX11_fitting wsX11_fitting) := goodIn_app (goodIn_sub (sub_c (nq_m (n := 5) rfl) (sub_c (nq_m (n := 6) rfl) (sub_c (nq_m (n := 7) rfl) (sub_c (nq_m (n := 8) rfl) sub_n)))) (by decide +kernel)) ggX11_fitsOf_X11_fitting
noncomputable def dX11_fitsOf_0_l : List (Nat × Instr × Nat) := [(0, .aload_n 0, 1), (1, .aload_n 0, 1), (2, .getfield 47, 3), (5, .aload_n 0, 1), (6, .getfield 99, 3), (9, .iload_n 1, 1), (10, .iaload, 1), (11, .iaload, 1), (12, .aload_n 0, 1), (13, .getfield 102, 3), (16, .iload_n 1, 1), (17, .iaload, 1), (18, .aload_n 0, 1), (19, .getfield 105, 3), (22, .iload_n 1, 1), (23, .iaload, 1), (24, .invokevirtual 350, 3), (27, .ireturn, 1)]
set_option maxRecDepth 100000 in
theorem dX11_fitsOf_0_g : dX11_fitsOf_0_l.all (fun x => decide (decode cX11_fitsOf x.1 = .ok x.2)) = true := by decide +kernel
theorem dX11_fitsOf_0 : decode cX11_fitsOf 0 = .ok (.aload_n 0, 1) := nq_d dX11_fitsOf_0_g (n := 0) rfl
theorem dX11_fitsOf_1 : decode cX11_fitsOf 1 = .ok (.aload_n 0, 1) := nq_d dX11_fitsOf_0_g (n := 1) rfl
theorem dX11_fitsOf_2 : decode cX11_fitsOf 2 = .ok (.getfield 47, 3) := nq_d dX11_fitsOf_0_g (n := 2) rfl
theorem dX11_fitsOf_5 : decode cX11_fitsOf 5 = .ok (.aload_n 0, 1) := nq_d dX11_fitsOf_0_g (n := 3) rfl
theorem dX11_fitsOf_6 : decode cX11_fitsOf 6 = .ok (.getfield 99, 3) := nq_d dX11_fitsOf_0_g (n := 4) rfl
theorem dX11_fitsOf_9 : decode cX11_fitsOf 9 = .ok (.iload_n 1, 1) := nq_d dX11_fitsOf_0_g (n := 5) rfl
theorem dX11_fitsOf_10 : decode cX11_fitsOf 10 = .ok (.iaload, 1) := nq_d dX11_fitsOf_0_g (n := 6) rfl
theorem dX11_fitsOf_11 : decode cX11_fitsOf 11 = .ok (.iaload, 1) := nq_d dX11_fitsOf_0_g (n := 7) rfl
theorem dX11_fitsOf_12 : decode cX11_fitsOf 12 = .ok (.aload_n 0, 1) := nq_d dX11_fitsOf_0_g (n := 8) rfl
theorem dX11_fitsOf_13 : decode cX11_fitsOf 13 = .ok (.getfield 102, 3) := nq_d dX11_fitsOf_0_g (n := 9) rfl
theorem dX11_fitsOf_16 : decode cX11_fitsOf 16 = .ok (.iload_n 1, 1) := nq_d dX11_fitsOf_0_g (n := 10) rfl
theorem dX11_fitsOf_17 : decode cX11_fitsOf 17 = .ok (.iaload, 1) := nq_d dX11_fitsOf_0_g (n := 11) rfl
theorem dX11_fitsOf_18 : decode cX11_fitsOf 18 = .ok (.aload_n 0, 1) := nq_d dX11_fitsOf_0_g (n := 12) rfl
theorem dX11_fitsOf_19 : decode cX11_fitsOf 19 = .ok (.getfield 105, 3) := nq_d dX11_fitsOf_0_g (n := 13) rfl
theorem dX11_fitsOf_22 : decode cX11_fitsOf 22 = .ok (.iload_n 1, 1) := nq_d dX11_fitsOf_0_g (n := 14) rfl
theorem dX11_fitsOf_23 : decode cX11_fitsOf 23 = .ok (.iaload, 1) := nq_d dX11_fitsOf_0_g (n := 15) rfl
theorem dX11_fitsOf_24 : decode cX11_fitsOf 24 = .ok (.invokevirtual 350, 3) := nq_d dX11_fitsOf_0_g (n := 16) rfl
theorem dX11_fitsOf_27 : decode cX11_fitsOf 27 = .ok (.ireturn, 1) := nq_d dX11_fitsOf_0_g (n := 17) rfl
set_option maxRecDepth 100000 in
theorem ggX11_fits_X11_isClaim : GoodIn wsX11_fits wsX11_isClaim := goodIn_sub (sub_c (nq_m (n := 5) rfl) (sub_c (nq_m (n := 6) rfl) (sub_c (nq_m (n := 7) rfl) (sub_c (nq_m (n := 8) rfl) (sub_c (nq_m (n := 4) rfl) (sub_c (nq_m (n := 9) rfl) (sub_c (nq_m (n := 26) rfl) (sub_c (nq_m (n := 27) rfl) (sub_c (nq_m (n := 28) rfl) (sub_c (nq_m (n := 29) rfl) (sub_c (nq_m (n := 30) rfl) (sub_c (nq_m (n := 31) rfl) (sub_c (nq_m (n := 32) rfl) (sub_c (nq_m (n := 33) rfl) (sub_c (nq_m (n := 34) rfl) (sub_c (nq_m (n := 35) rfl) (sub_c (nq_m (n := 36) rfl) (sub_c (nq_m (n := 37) rfl) (sub_c (nq_m (n := 38) rfl) (sub_c (nq_m (n := 39) rfl) (sub_c (nq_m (n := 40) rfl) (sub_c (nq_m (n := 41) rfl) (sub_c (nq_m (n := 42) rfl) (sub_c (nq_m (n := 43) rfl) (sub_c (nq_m (n := 44) rfl) (sub_c (nq_m (n := 45) rfl) (sub_c (nq_m (n := 46) rfl) (sub_c (nq_m (n := 47) rfl) (sub_c (nq_m (n := 48) rfl) (sub_c (nq_m (n := 49) rfl) (sub_c (nq_m (n := 50) rfl) (sub_c (nq_m (n := 51) rfl) (sub_c (nq_m (n := 52) rfl) (sub_c (nq_m (n := 53) rfl) (sub_c (nq_m (n := 54) rfl) (sub_c (nq_m (n := 55) rfl) (sub_c (nq_m (n := 56) rfl) (sub_c (nq_m (n := 57) rfl) (sub_c (nq_m (n := 58) rfl) (sub_c (nq_m (n := 59) rfl) (sub_c (nq_m (n := 60) rfl) (sub_c (nq_m (n := 61) rfl) (sub_c (nq_m (n := 62) rfl) (sub_c (nq_m (n := 63) rfl) (sub_c (nq_m (n := 64) rfl) (sub_c (nq_m (n := 65) rfl) (sub_c (nq_m (n := 66) rfl) (sub_c (nq_m (n := 67) rfl) (sub_c (nq_m (n := 68) rfl) (sub_c (nq_m (n := 69) rfl) (sub_c (nq_m (n := 70) rfl) (sub_c (nq_m (n := 71) rfl) (sub_c (nq_m (n := 72) rfl) (sub_c (nq_m (n := 73) rfl) (sub_c (nq_m (n := 74) rfl) (sub_c (nq_m (n := 75) rfl) (sub_c (nq_m (n := 76) rfl) (sub_c (nq_m (n := 77) rfl) (sub_c (nq_m (n := 78) rfl) (sub_c (nq_m (n := 79) rfl) (sub_c (nq_m (n := 80) rfl) (sub_c (nq_m (n := 81) rfl) (sub_c (nq_m (n := 82) rfl) (sub_c (nq_m (n := 83) rfl) sub_n)))))))))))))))))))))))))))))))))))))))))))))))))))))))))))))))) (by decide +kernel)
set_option maxRecDepth 100000 in
theorem gX11_fits_X11_isClaim : GoodIn wsX11_fits (wsV RX11 353 RX11 yX11_isClaim wsX11_isClaim) := goodIn_app (goodIn_sub (sub_c (nq_m (n := 1) rfl) (sub_c (nq_m (n := 2) rfl) (sub_c (nq_m (n := 3) rfl) (sub_c (nq_m (n := 4) rfl) sub_n)))) (by decide +kernel)) ggX11_fits_X11_isClaim
set_option maxRecDepth 100000 in
theorem ggX11_fits_X11_fitsOf : GoodIn wsX11_fits wsX11_fitsOf := goodIn_sub (sub_c (nq_m (n := 13) rfl) (sub_c (nq_m (n := 14) rfl) (sub_c (nq_m (n := 15) rfl) (sub_c (nq_m (n := 16) rfl) (sub_c (nq_m (n := 17) rfl) (sub_c (nq_m (n := 18) rfl) (sub_c (nq_m (n := 19) rfl) (sub_c (nq_m (n := 20) rfl) (sub_c (nq_m (n := 4) rfl) (sub_c (nq_m (n := 21) rfl) (sub_c (nq_m (n := 22) rfl) (sub_c (nq_m (n := 23) rfl) (sub_c (nq_m (n := 24) rfl) (sub_c (nq_m (n := 25) rfl) (sub_c (nq_m (n := 26) rfl) (sub_c (nq_m (n := 27) rfl) (sub_c (nq_m (n := 28) rfl) (sub_c (nq_m (n := 29) rfl) (sub_c (nq_m (n := 30) rfl) (sub_c (nq_m (n := 31) rfl) (sub_c (nq_m (n := 32) rfl) (sub_c (nq_m (n := 33) rfl) (sub_c (nq_m (n := 34) rfl) (sub_c (nq_m (n := 35) rfl) (sub_c (nq_m (n := 36) rfl) (sub_c (nq_m (n := 37) rfl) (sub_c (nq_m (n := 38) rfl) (sub_c (nq_m (n := 39) rfl) (sub_c (nq_m (n := 40) rfl) (sub_c (nq_m (n := 41) rfl) (sub_c (nq_m (n := 42) rfl) (sub_c (nq_m (n := 43) rfl) (sub_c (nq_m (n := 44) rfl) (sub_c (nq_m (n := 45) rfl) (sub_c (nq_m (n := 46) rfl) (sub_c (nq_m (n := 47) rfl) (sub_c (nq_m (n := 48) rfl) (sub_c (nq_m (n := 49) rfl) (sub_c (nq_m (n := 50) rfl) (sub_c (nq_m (n := 51) rfl) (sub_c (nq_m (n := 52) rfl) (sub_c (nq_m (n := 53) rfl) (sub_c (nq_m (n := 54) rfl) (sub_c (nq_m (n := 55) rfl) (sub_c (nq_m (n := 56) rfl) (sub_c (nq_m (n := 57) rfl) (sub_c (nq_m (n := 58) rfl) (sub_c (nq_m (n := 59) rfl) (sub_c (nq_m (n := 60) rfl) (sub_c (nq_m (n := 61) rfl) (sub_c (nq_m (n := 62) rfl) (sub_c (nq_m (n := 63) rfl) (sub_c (nq_m (n := 64) rfl) (sub_c (nq_m (n := 65) rfl) (sub_c (nq_m (n := 66) rfl) (sub_c (nq_m (n := 67) rfl) (sub_c (nq_m (n := 68) rfl) (sub_c (nq_m (n := 69) rfl) (sub_c (nq_m (n := 70) rfl) (sub_c (nq_m (n := 71) rfl) (sub_c (nq_m (n := 72) rfl) (sub_c (nq_m (n := 73) rfl) (sub_c (nq_m (n := 74) rfl) (sub_c (nq_m (n := 75) rfl) (sub_c (nq_m (n := 76) rfl) (sub_c (nq_m (n := 77) rfl) (sub_c (nq_m (n := 78) rfl) (sub_c (nq_m (n := 79) rfl) (sub_c (nq_m (n := 80) rfl) (sub_c (nq_m (n := 81) rfl) (sub_c (nq_m (n := 82) rfl) (sub_c (nq_m (n := 83) rfl) sub_n)))))))))))))))))))))))))))))))))))))))))))))))))))))))))))))))))))))))) (by decide +kernel)
set_option maxRecDepth 100000 in
theorem gX11_fits_X11_fitsOf : GoodIn wsX11_fits (wsV RX11 356 RX11 yX11_fitsOf wsX11_fitsOf) := goodIn_app (goodIn_sub (sub_c (nq_m (n := 10) rfl) (sub_c (nq_m (n := 11) rfl) (sub_c (nq_m (n := 12) rfl) (sub_c (nq_m (n := 4) rfl) sub_n)))) (by decide +kernel)) ggX11_fits_X11_fitsOf
noncomputable def dX11_fits_0_l : List (Nat × Instr × Nat) := [(0, .aload_n 0, 1), (1, .iload_n 1, 1), (2, .invokevirtual 353, 3), (5, .ifCond .eq 11, 3), (8, .aload_n 0, 1), (9, .iload_n 1, 1), (10, .invokevirtual 356, 3), (13, .goto 6, 3), (16, .sipush (-1001), 3), (19, .ireturn, 1)]
set_option maxRecDepth 100000 in
theorem dX11_fits_0_g : dX11_fits_0_l.all (fun x => decide (decode cX11_fits x.1 = .ok x.2)) = true := by decide +kernel
theorem dX11_fits_0 : decode cX11_fits 0 = .ok (.aload_n 0, 1) := nq_d dX11_fits_0_g (n := 0) rfl
theorem dX11_fits_1 : decode cX11_fits 1 = .ok (.iload_n 1, 1) := nq_d dX11_fits_0_g (n := 1) rfl
theorem dX11_fits_2 : decode cX11_fits 2 = .ok (.invokevirtual 353, 3) := nq_d dX11_fits_0_g (n := 2) rfl
theorem dX11_fits_5 : decode cX11_fits 5 = .ok (.ifCond .eq 11, 3) := nq_d dX11_fits_0_g (n := 3) rfl
theorem dX11_fits_8 : decode cX11_fits 8 = .ok (.aload_n 0, 1) := nq_d dX11_fits_0_g (n := 4) rfl
theorem dX11_fits_9 : decode cX11_fits 9 = .ok (.iload_n 1, 1) := nq_d dX11_fits_0_g (n := 5) rfl
theorem dX11_fits_10 : decode cX11_fits 10 = .ok (.invokevirtual 356, 3) := nq_d dX11_fits_0_g (n := 6) rfl
theorem dX11_fits_13 : decode cX11_fits 13 = .ok (.goto 6, 3) := nq_d dX11_fits_0_g (n := 7) rfl
theorem dX11_fits_16 : decode cX11_fits 16 = .ok (.sipush (-1001), 3) := nq_d dX11_fits_0_g (n := 8) rfl
theorem dX11_fits_19 : decode cX11_fits 19 = .ok (.ireturn, 1) := nq_d dX11_fits_0_g (n := 9) rfl
set_option maxRecDepth 100000 in
theorem ggX11_waysWith_X11_fitsOf : GoodIn wsX11_waysWith wsX11_fitsOf := goodIn_sub (sub_c (nq_m (n := 8) rfl) (sub_c (nq_m (n := 9) rfl) (sub_c (nq_m (n := 10) rfl) (sub_c (nq_m (n := 11) rfl) (sub_c (nq_m (n := 12) rfl) (sub_c (nq_m (n := 13) rfl) (sub_c (nq_m (n := 14) rfl) (sub_c (nq_m (n := 15) rfl) (sub_c (nq_m (n := 7) rfl) (sub_c (nq_m (n := 16) rfl) (sub_c (nq_m (n := 17) rfl) (sub_c (nq_m (n := 18) rfl) (sub_c (nq_m (n := 19) rfl) (sub_c (nq_m (n := 20) rfl) (sub_c (nq_m (n := 21) rfl) (sub_c (nq_m (n := 22) rfl) (sub_c (nq_m (n := 23) rfl) (sub_c (nq_m (n := 24) rfl) (sub_c (nq_m (n := 25) rfl) (sub_c (nq_m (n := 26) rfl) (sub_c (nq_m (n := 27) rfl) (sub_c (nq_m (n := 28) rfl) (sub_c (nq_m (n := 29) rfl) (sub_c (nq_m (n := 30) rfl) (sub_c (nq_m (n := 31) rfl) (sub_c (nq_m (n := 32) rfl) (sub_c (nq_m (n := 33) rfl) (sub_c (nq_m (n := 34) rfl) (sub_c (nq_m (n := 35) rfl) (sub_c (nq_m (n := 36) rfl) (sub_c (nq_m (n := 37) rfl) (sub_c (nq_m (n := 38) rfl) (sub_c (nq_m (n := 39) rfl) (sub_c (nq_m (n := 40) rfl) (sub_c (nq_m (n := 41) rfl) (sub_c (nq_m (n := 42) rfl) (sub_c (nq_m (n := 43) rfl) (sub_c (nq_m (n := 44) rfl) (sub_c (nq_m (n := 45) rfl) (sub_c (nq_m (n := 46) rfl) (sub_c (nq_m (n := 47) rfl) (sub_c (nq_m (n := 48) rfl) (sub_c (nq_m (n := 49) rfl) (sub_c (nq_m (n := 50) rfl) (sub_c (nq_m (n := 51) rfl) (sub_c (nq_m (n := 52) rfl) (sub_c (nq_m (n := 53) rfl) (sub_c (nq_m (n := 54) rfl) (sub_c (nq_m (n := 55) rfl) (sub_c (nq_m (n := 56) rfl) (sub_c (nq_m (n := 57) rfl) (sub_c (nq_m (n := 58) rfl) (sub_c (nq_m (n := 59) rfl) (sub_c (nq_m (n := 60) rfl) (sub_c (nq_m (n := 61) rfl) (sub_c (nq_m (n := 62) rfl) (sub_c (nq_m (n := 63) rfl) (sub_c (nq_m (n := 64) rfl) (sub_c (nq_m (n := 65) rfl) (sub_c (nq_m (n := 66) rfl) (sub_c (nq_m (n := 67) rfl) (sub_c (nq_m (n := 68) rfl) (sub_c (nq_m (n := 69) rfl) (sub_c (nq_m (n := 70) rfl) (sub_c (nq_m (n := 71) rfl) (sub_c (nq_m (n := 72) rfl) (sub_c (nq_m (n := 73) rfl) (sub_c (nq_m (n := 74) rfl) (sub_c (nq_m (n := 75) rfl) (sub_c (nq_m (n := 76) rfl) (sub_c (nq_m (n := 77) rfl) (sub_c (nq_m (n := 78) rfl) sub_n)))))))))))))))))))))))))))))))))))))))))))))))))))))))))))))))))))))))) (by decide +kernel)
set_option maxRecDepth 100000 in
theorem gX11_waysWith_X11_fitsOf : GoodIn wsX11_waysWith (wsV RX11 356 RX11 yX11_fitsOf wsX11_fitsOf) := goodIn_app (goodIn_sub (sub_c (nq_m (n := 4) rfl) (sub_c (nq_m (n := 5) rfl) (sub_c (nq_m (n := 6) rfl) (sub_c (nq_m (n := 7) rfl) sub_n)))) (by decide +kernel)) ggX11_waysWith_X11_fitsOf
noncomputable def dX11_waysWith_0_l : List (Nat × Instr × Nat) := [(0, .iconst 1, 1), (1, .aload_n 0, 1), (2, .getfield 238, 3), (5, .ishl, 1), (6, .iconst 1, 1), (7, .isub, 1), (8, .istore_n 3, 1), (9, .iconst 0, 1), (10, .istore 4, 2), (12, .iload 4, 2), (14, .iload_n 3, 1), (15, .if_icmp .gt 26, 3), (18, .aload_n 0, 1), (19, .getfield 108, 3), (22, .iload 4, 2), (24, .iload 4, 2), (26, .ifCond .ne 7, 3), (29, .lconst 1, 1), (30, .goto 4, 3), (33, .lconst 0, 1), (34, .lastore, 1), (35, .iinc 4 1, 3), (38, .goto (-26), 3), (41, .iconst 0, 1), (42, .istore 4, 2), (44, .iload 4, 2), (46, .aload_n 0, 1), (47, .getfield 227, 3), (50, .if_icmp .ge 146, 3), (53, .iload_n 3, 1), (54, .istore 5, 2), (56, .iload 5, 2), (58, .ifCond .lt 132, 3), (61, .iconst 0, 1), (62, .istore 6, 2), (64, .iload 6, 2), (66, .aload_n 0, 1), (67, .getfield 238, 3), (70, .if_icmp .ge 114, 3), (73, .iload 5, 2)]
set_option maxRecDepth 100000 in
theorem dX11_waysWith_0_g : dX11_waysWith_0_l.all (fun x => decide (decode cX11_waysWith x.1 = .ok x.2)) = true := by decide +kernel
theorem dX11_waysWith_0 : decode cX11_waysWith 0 = .ok (.iconst 1, 1) := nq_d dX11_waysWith_0_g (n := 0) rfl
theorem dX11_waysWith_1 : decode cX11_waysWith 1 = .ok (.aload_n 0, 1) := nq_d dX11_waysWith_0_g (n := 1) rfl
theorem dX11_waysWith_2 : decode cX11_waysWith 2 = .ok (.getfield 238, 3) := nq_d dX11_waysWith_0_g (n := 2) rfl
theorem dX11_waysWith_5 : decode cX11_waysWith 5 = .ok (.ishl, 1) := nq_d dX11_waysWith_0_g (n := 3) rfl
theorem dX11_waysWith_6 : decode cX11_waysWith 6 = .ok (.iconst 1, 1) := nq_d dX11_waysWith_0_g (n := 4) rfl
theorem dX11_waysWith_7 : decode cX11_waysWith 7 = .ok (.isub, 1) := nq_d dX11_waysWith_0_g (n := 5) rfl
theorem dX11_waysWith_8 : decode cX11_waysWith 8 = .ok (.istore_n 3, 1) := nq_d dX11_waysWith_0_g (n := 6) rfl
theorem dX11_waysWith_9 : decode cX11_waysWith 9 = .ok (.iconst 0, 1) := nq_d dX11_waysWith_0_g (n := 7) rfl
theorem dX11_waysWith_10 : decode cX11_waysWith 10 = .ok (.istore 4, 2) := nq_d dX11_waysWith_0_g (n := 8) rfl
theorem dX11_waysWith_12 : decode cX11_waysWith 12 = .ok (.iload 4, 2) := nq_d dX11_waysWith_0_g (n := 9) rfl
theorem dX11_waysWith_14 : decode cX11_waysWith 14 = .ok (.iload_n 3, 1) := nq_d dX11_waysWith_0_g (n := 10) rfl
theorem dX11_waysWith_15 : decode cX11_waysWith 15 = .ok (.if_icmp .gt 26, 3) := nq_d dX11_waysWith_0_g (n := 11) rfl
theorem dX11_waysWith_18 : decode cX11_waysWith 18 = .ok (.aload_n 0, 1) := nq_d dX11_waysWith_0_g (n := 12) rfl
theorem dX11_waysWith_19 : decode cX11_waysWith 19 = .ok (.getfield 108, 3) := nq_d dX11_waysWith_0_g (n := 13) rfl
theorem dX11_waysWith_22 : decode cX11_waysWith 22 = .ok (.iload 4, 2) := nq_d dX11_waysWith_0_g (n := 14) rfl
theorem dX11_waysWith_24 : decode cX11_waysWith 24 = .ok (.iload 4, 2) := nq_d dX11_waysWith_0_g (n := 15) rfl
theorem dX11_waysWith_26 : decode cX11_waysWith 26 = .ok (.ifCond .ne 7, 3) := nq_d dX11_waysWith_0_g (n := 16) rfl
theorem dX11_waysWith_29 : decode cX11_waysWith 29 = .ok (.lconst 1, 1) := nq_d dX11_waysWith_0_g (n := 17) rfl
theorem dX11_waysWith_30 : decode cX11_waysWith 30 = .ok (.goto 4, 3) := nq_d dX11_waysWith_0_g (n := 18) rfl
theorem dX11_waysWith_33 : decode cX11_waysWith 33 = .ok (.lconst 0, 1) := nq_d dX11_waysWith_0_g (n := 19) rfl
theorem dX11_waysWith_34 : decode cX11_waysWith 34 = .ok (.lastore, 1) := nq_d dX11_waysWith_0_g (n := 20) rfl
theorem dX11_waysWith_35 : decode cX11_waysWith 35 = .ok (.iinc 4 1, 3) := nq_d dX11_waysWith_0_g (n := 21) rfl
theorem dX11_waysWith_38 : decode cX11_waysWith 38 = .ok (.goto (-26), 3) := nq_d dX11_waysWith_0_g (n := 22) rfl
theorem dX11_waysWith_41 : decode cX11_waysWith 41 = .ok (.iconst 0, 1) := nq_d dX11_waysWith_0_g (n := 23) rfl
theorem dX11_waysWith_42 : decode cX11_waysWith 42 = .ok (.istore 4, 2) := nq_d dX11_waysWith_0_g (n := 24) rfl
theorem dX11_waysWith_44 : decode cX11_waysWith 44 = .ok (.iload 4, 2) := nq_d dX11_waysWith_0_g (n := 25) rfl
theorem dX11_waysWith_46 : decode cX11_waysWith 46 = .ok (.aload_n 0, 1) := nq_d dX11_waysWith_0_g (n := 26) rfl
theorem dX11_waysWith_47 : decode cX11_waysWith 47 = .ok (.getfield 227, 3) := nq_d dX11_waysWith_0_g (n := 27) rfl
theorem dX11_waysWith_50 : decode cX11_waysWith 50 = .ok (.if_icmp .ge 146, 3) := nq_d dX11_waysWith_0_g (n := 28) rfl
theorem dX11_waysWith_53 : decode cX11_waysWith 53 = .ok (.iload_n 3, 1) := nq_d dX11_waysWith_0_g (n := 29) rfl
theorem dX11_waysWith_54 : decode cX11_waysWith 54 = .ok (.istore 5, 2) := nq_d dX11_waysWith_0_g (n := 30) rfl
theorem dX11_waysWith_56 : decode cX11_waysWith 56 = .ok (.iload 5, 2) := nq_d dX11_waysWith_0_g (n := 31) rfl
theorem dX11_waysWith_58 : decode cX11_waysWith 58 = .ok (.ifCond .lt 132, 3) := nq_d dX11_waysWith_0_g (n := 32) rfl
theorem dX11_waysWith_61 : decode cX11_waysWith 61 = .ok (.iconst 0, 1) := nq_d dX11_waysWith_0_g (n := 33) rfl
theorem dX11_waysWith_62 : decode cX11_waysWith 62 = .ok (.istore 6, 2) := nq_d dX11_waysWith_0_g (n := 34) rfl
theorem dX11_waysWith_64 : decode cX11_waysWith 64 = .ok (.iload 6, 2) := nq_d dX11_waysWith_0_g (n := 35) rfl
theorem dX11_waysWith_66 : decode cX11_waysWith 66 = .ok (.aload_n 0, 1) := nq_d dX11_waysWith_0_g (n := 36) rfl
theorem dX11_waysWith_67 : decode cX11_waysWith 67 = .ok (.getfield 238, 3) := nq_d dX11_waysWith_0_g (n := 37) rfl
theorem dX11_waysWith_70 : decode cX11_waysWith 70 = .ok (.if_icmp .ge 114, 3) := nq_d dX11_waysWith_0_g (n := 38) rfl
theorem dX11_waysWith_73 : decode cX11_waysWith 73 = .ok (.iload 5, 2) := nq_d dX11_waysWith_0_g (n := 39) rfl
noncomputable def dX11_waysWith_75_l : List (Nat × Instr × Nat) := [(75, .iload 6, 2), (77, .ishr, 1), (78, .iconst 1, 1), (79, .iand, 1), (80, .iconst 1, 1), (81, .if_icmp .ne 22, 3), (84, .aload_n 0, 1), (85, .iload 6, 2), (87, .invokevirtual 356, 3), (90, .iload 4, 2), (92, .ishr, 1), (93, .iconst 1, 1), (94, .iand, 1), (95, .iconst 1, 1), (96, .if_icmp .ne 7, 3), (99, .iconst 1, 1), (100, .goto 4, 3), (103, .iconst 0, 1), (104, .istore 7, 2), (106, .iload 7, 2), (108, .ifCond .eq 36, 3), (111, .iload_n 1, 1), (112, .ifCond .lt 28, 3), (115, .iload 6, 2), (117, .iload_n 1, 1), (118, .if_icmp .ne 7, 3), (121, .iconst 1, 1), (122, .goto 4, 3), (125, .iconst 0, 1), (126, .iload 4, 2), (128, .iload_n 2, 1), (129, .if_icmp .ne 7, 3), (132, .iconst 1, 1), (133, .goto 4, 3), (136, .iconst 0, 1), (137, .if_icmp .ne 7, 3), (140, .iconst 1, 1), (141, .goto 4, 3), (144, .iconst 0, 1), (145, .istore 7, 2)]
set_option maxRecDepth 100000 in
theorem dX11_waysWith_75_g : dX11_waysWith_75_l.all (fun x => decide (decode cX11_waysWith x.1 = .ok x.2)) = true := by decide +kernel
theorem dX11_waysWith_75 : decode cX11_waysWith 75 = .ok (.iload 6, 2) := nq_d dX11_waysWith_75_g (n := 0) rfl
theorem dX11_waysWith_77 : decode cX11_waysWith 77 = .ok (.ishr, 1) := nq_d dX11_waysWith_75_g (n := 1) rfl
theorem dX11_waysWith_78 : decode cX11_waysWith 78 = .ok (.iconst 1, 1) := nq_d dX11_waysWith_75_g (n := 2) rfl
theorem dX11_waysWith_79 : decode cX11_waysWith 79 = .ok (.iand, 1) := nq_d dX11_waysWith_75_g (n := 3) rfl
theorem dX11_waysWith_80 : decode cX11_waysWith 80 = .ok (.iconst 1, 1) := nq_d dX11_waysWith_75_g (n := 4) rfl
theorem dX11_waysWith_81 : decode cX11_waysWith 81 = .ok (.if_icmp .ne 22, 3) := nq_d dX11_waysWith_75_g (n := 5) rfl
theorem dX11_waysWith_84 : decode cX11_waysWith 84 = .ok (.aload_n 0, 1) := nq_d dX11_waysWith_75_g (n := 6) rfl
theorem dX11_waysWith_85 : decode cX11_waysWith 85 = .ok (.iload 6, 2) := nq_d dX11_waysWith_75_g (n := 7) rfl
theorem dX11_waysWith_87 : decode cX11_waysWith 87 = .ok (.invokevirtual 356, 3) := nq_d dX11_waysWith_75_g (n := 8) rfl
theorem dX11_waysWith_90 : decode cX11_waysWith 90 = .ok (.iload 4, 2) := nq_d dX11_waysWith_75_g (n := 9) rfl
theorem dX11_waysWith_92 : decode cX11_waysWith 92 = .ok (.ishr, 1) := nq_d dX11_waysWith_75_g (n := 10) rfl
theorem dX11_waysWith_93 : decode cX11_waysWith 93 = .ok (.iconst 1, 1) := nq_d dX11_waysWith_75_g (n := 11) rfl
theorem dX11_waysWith_94 : decode cX11_waysWith 94 = .ok (.iand, 1) := nq_d dX11_waysWith_75_g (n := 12) rfl
theorem dX11_waysWith_95 : decode cX11_waysWith 95 = .ok (.iconst 1, 1) := nq_d dX11_waysWith_75_g (n := 13) rfl
theorem dX11_waysWith_96 : decode cX11_waysWith 96 = .ok (.if_icmp .ne 7, 3) := nq_d dX11_waysWith_75_g (n := 14) rfl
theorem dX11_waysWith_99 : decode cX11_waysWith 99 = .ok (.iconst 1, 1) := nq_d dX11_waysWith_75_g (n := 15) rfl
theorem dX11_waysWith_100 : decode cX11_waysWith 100 = .ok (.goto 4, 3) := nq_d dX11_waysWith_75_g (n := 16) rfl
theorem dX11_waysWith_103 : decode cX11_waysWith 103 = .ok (.iconst 0, 1) := nq_d dX11_waysWith_75_g (n := 17) rfl
theorem dX11_waysWith_104 : decode cX11_waysWith 104 = .ok (.istore 7, 2) := nq_d dX11_waysWith_75_g (n := 18) rfl
theorem dX11_waysWith_106 : decode cX11_waysWith 106 = .ok (.iload 7, 2) := nq_d dX11_waysWith_75_g (n := 19) rfl
theorem dX11_waysWith_108 : decode cX11_waysWith 108 = .ok (.ifCond .eq 36, 3) := nq_d dX11_waysWith_75_g (n := 20) rfl
theorem dX11_waysWith_111 : decode cX11_waysWith 111 = .ok (.iload_n 1, 1) := nq_d dX11_waysWith_75_g (n := 21) rfl
theorem dX11_waysWith_112 : decode cX11_waysWith 112 = .ok (.ifCond .lt 28, 3) := nq_d dX11_waysWith_75_g (n := 22) rfl
theorem dX11_waysWith_115 : decode cX11_waysWith 115 = .ok (.iload 6, 2) := nq_d dX11_waysWith_75_g (n := 23) rfl
theorem dX11_waysWith_117 : decode cX11_waysWith 117 = .ok (.iload_n 1, 1) := nq_d dX11_waysWith_75_g (n := 24) rfl
theorem dX11_waysWith_118 : decode cX11_waysWith 118 = .ok (.if_icmp .ne 7, 3) := nq_d dX11_waysWith_75_g (n := 25) rfl
theorem dX11_waysWith_121 : decode cX11_waysWith 121 = .ok (.iconst 1, 1) := nq_d dX11_waysWith_75_g (n := 26) rfl
theorem dX11_waysWith_122 : decode cX11_waysWith 122 = .ok (.goto 4, 3) := nq_d dX11_waysWith_75_g (n := 27) rfl
theorem dX11_waysWith_125 : decode cX11_waysWith 125 = .ok (.iconst 0, 1) := nq_d dX11_waysWith_75_g (n := 28) rfl
theorem dX11_waysWith_126 : decode cX11_waysWith 126 = .ok (.iload 4, 2) := nq_d dX11_waysWith_75_g (n := 29) rfl
theorem dX11_waysWith_128 : decode cX11_waysWith 128 = .ok (.iload_n 2, 1) := nq_d dX11_waysWith_75_g (n := 30) rfl
theorem dX11_waysWith_129 : decode cX11_waysWith 129 = .ok (.if_icmp .ne 7, 3) := nq_d dX11_waysWith_75_g (n := 31) rfl
theorem dX11_waysWith_132 : decode cX11_waysWith 132 = .ok (.iconst 1, 1) := nq_d dX11_waysWith_75_g (n := 32) rfl
theorem dX11_waysWith_133 : decode cX11_waysWith 133 = .ok (.goto 4, 3) := nq_d dX11_waysWith_75_g (n := 33) rfl
theorem dX11_waysWith_136 : decode cX11_waysWith 136 = .ok (.iconst 0, 1) := nq_d dX11_waysWith_75_g (n := 34) rfl
theorem dX11_waysWith_137 : decode cX11_waysWith 137 = .ok (.if_icmp .ne 7, 3) := nq_d dX11_waysWith_75_g (n := 35) rfl
theorem dX11_waysWith_140 : decode cX11_waysWith 140 = .ok (.iconst 1, 1) := nq_d dX11_waysWith_75_g (n := 36) rfl
theorem dX11_waysWith_141 : decode cX11_waysWith 141 = .ok (.goto 4, 3) := nq_d dX11_waysWith_75_g (n := 37) rfl
theorem dX11_waysWith_144 : decode cX11_waysWith 144 = .ok (.iconst 0, 1) := nq_d dX11_waysWith_75_g (n := 38) rfl
theorem dX11_waysWith_145 : decode cX11_waysWith 145 = .ok (.istore 7, 2) := nq_d dX11_waysWith_75_g (n := 39) rfl
noncomputable def dX11_waysWith_147_l : List (Nat × Instr × Nat) := [(147, .aload_n 0, 1), (148, .getfield 108, 3), (151, .iload 5, 2), (153, .dup2, 1), (154, .laload, 1), (155, .iload 7, 2), (157, .ifCond .eq 18, 3), (160, .aload_n 0, 1), (161, .getfield 108, 3), (164, .iload 5, 2), (166, .iconst 1, 1), (167, .iload 6, 2), (169, .ishl, 1), (170, .ixor, 1), (171, .laload, 1), (172, .goto 4, 3), (175, .lconst 0, 1), (176, .ladd, 1), (177, .lastore, 1), (178, .iinc 6 1, 3), (181, .goto (-117), 3), (184, .iinc 5 (-1), 3), (187, .goto (-131), 3), (190, .iinc 4 1, 3), (193, .goto (-149), 3), (196, .aload_n 0, 1), (197, .getfield 108, 3), (200, .iload_n 3, 1), (201, .laload, 1), (202, .lreturn, 1)]
set_option maxRecDepth 100000 in
theorem dX11_waysWith_147_g : dX11_waysWith_147_l.all (fun x => decide (decode cX11_waysWith x.1 = .ok x.2)) = true := by decide +kernel
theorem dX11_waysWith_147 : decode cX11_waysWith 147 = .ok (.aload_n 0, 1) := nq_d dX11_waysWith_147_g (n := 0) rfl
theorem dX11_waysWith_148 : decode cX11_waysWith 148 = .ok (.getfield 108, 3) := nq_d dX11_waysWith_147_g (n := 1) rfl
theorem dX11_waysWith_151 : decode cX11_waysWith 151 = .ok (.iload 5, 2) := nq_d dX11_waysWith_147_g (n := 2) rfl
theorem dX11_waysWith_153 : decode cX11_waysWith 153 = .ok (.dup2, 1) := nq_d dX11_waysWith_147_g (n := 3) rfl
theorem dX11_waysWith_154 : decode cX11_waysWith 154 = .ok (.laload, 1) := nq_d dX11_waysWith_147_g (n := 4) rfl
theorem dX11_waysWith_155 : decode cX11_waysWith 155 = .ok (.iload 7, 2) := nq_d dX11_waysWith_147_g (n := 5) rfl
theorem dX11_waysWith_157 : decode cX11_waysWith 157 = .ok (.ifCond .eq 18, 3) := nq_d dX11_waysWith_147_g (n := 6) rfl
theorem dX11_waysWith_160 : decode cX11_waysWith 160 = .ok (.aload_n 0, 1) := nq_d dX11_waysWith_147_g (n := 7) rfl
theorem dX11_waysWith_161 : decode cX11_waysWith 161 = .ok (.getfield 108, 3) := nq_d dX11_waysWith_147_g (n := 8) rfl
theorem dX11_waysWith_164 : decode cX11_waysWith 164 = .ok (.iload 5, 2) := nq_d dX11_waysWith_147_g (n := 9) rfl
theorem dX11_waysWith_166 : decode cX11_waysWith 166 = .ok (.iconst 1, 1) := nq_d dX11_waysWith_147_g (n := 10) rfl
theorem dX11_waysWith_167 : decode cX11_waysWith 167 = .ok (.iload 6, 2) := nq_d dX11_waysWith_147_g (n := 11) rfl
theorem dX11_waysWith_169 : decode cX11_waysWith 169 = .ok (.ishl, 1) := nq_d dX11_waysWith_147_g (n := 12) rfl
theorem dX11_waysWith_170 : decode cX11_waysWith 170 = .ok (.ixor, 1) := nq_d dX11_waysWith_147_g (n := 13) rfl
theorem dX11_waysWith_171 : decode cX11_waysWith 171 = .ok (.laload, 1) := nq_d dX11_waysWith_147_g (n := 14) rfl
theorem dX11_waysWith_172 : decode cX11_waysWith 172 = .ok (.goto 4, 3) := nq_d dX11_waysWith_147_g (n := 15) rfl
theorem dX11_waysWith_175 : decode cX11_waysWith 175 = .ok (.lconst 0, 1) := nq_d dX11_waysWith_147_g (n := 16) rfl
theorem dX11_waysWith_176 : decode cX11_waysWith 176 = .ok (.ladd, 1) := nq_d dX11_waysWith_147_g (n := 17) rfl
theorem dX11_waysWith_177 : decode cX11_waysWith 177 = .ok (.lastore, 1) := nq_d dX11_waysWith_147_g (n := 18) rfl
theorem dX11_waysWith_178 : decode cX11_waysWith 178 = .ok (.iinc 6 1, 3) := nq_d dX11_waysWith_147_g (n := 19) rfl
theorem dX11_waysWith_181 : decode cX11_waysWith 181 = .ok (.goto (-117), 3) := nq_d dX11_waysWith_147_g (n := 20) rfl
theorem dX11_waysWith_184 : decode cX11_waysWith 184 = .ok (.iinc 5 (-1), 3) := nq_d dX11_waysWith_147_g (n := 21) rfl
theorem dX11_waysWith_187 : decode cX11_waysWith 187 = .ok (.goto (-131), 3) := nq_d dX11_waysWith_147_g (n := 22) rfl
theorem dX11_waysWith_190 : decode cX11_waysWith 190 = .ok (.iinc 4 1, 3) := nq_d dX11_waysWith_147_g (n := 23) rfl
theorem dX11_waysWith_193 : decode cX11_waysWith 193 = .ok (.goto (-149), 3) := nq_d dX11_waysWith_147_g (n := 24) rfl
theorem dX11_waysWith_196 : decode cX11_waysWith 196 = .ok (.aload_n 0, 1) := nq_d dX11_waysWith_147_g (n := 25) rfl
theorem dX11_waysWith_197 : decode cX11_waysWith 197 = .ok (.getfield 108, 3) := nq_d dX11_waysWith_147_g (n := 26) rfl
theorem dX11_waysWith_200 : decode cX11_waysWith 200 = .ok (.iload_n 3, 1) := nq_d dX11_waysWith_147_g (n := 27) rfl
theorem dX11_waysWith_201 : decode cX11_waysWith 201 = .ok (.laload, 1) := nq_d dX11_waysWith_147_g (n := 28) rfl
theorem dX11_waysWith_202 : decode cX11_waysWith 202 = .ok (.lreturn, 1) := nq_d dX11_waysWith_147_g (n := 29) rfl
set_option maxRecDepth 100000 in
theorem ggX11_ways_X11_waysWith : GoodIn wsX11_ways wsX11_waysWith := goodIn_sub (sub_c (nq_m (n := 5) rfl) (sub_c (nq_m (n := 6) rfl) (sub_c (nq_m (n := 7) rfl) (sub_c (nq_m (n := 8) rfl) (sub_c (nq_m (n := 9) rfl) (sub_c (nq_m (n := 10) rfl) (sub_c (nq_m (n := 11) rfl) (sub_c (nq_m (n := 4) rfl) (sub_c (nq_m (n := 12) rfl) (sub_c (nq_m (n := 13) rfl) (sub_c (nq_m (n := 14) rfl) (sub_c (nq_m (n := 15) rfl) (sub_c (nq_m (n := 16) rfl) (sub_c (nq_m (n := 17) rfl) (sub_c (nq_m (n := 18) rfl) (sub_c (nq_m (n := 19) rfl) (sub_c (nq_m (n := 20) rfl) (sub_c (nq_m (n := 21) rfl) (sub_c (nq_m (n := 22) rfl) (sub_c (nq_m (n := 23) rfl) (sub_c (nq_m (n := 24) rfl) (sub_c (nq_m (n := 25) rfl) (sub_c (nq_m (n := 26) rfl) (sub_c (nq_m (n := 27) rfl) (sub_c (nq_m (n := 28) rfl) (sub_c (nq_m (n := 29) rfl) (sub_c (nq_m (n := 30) rfl) (sub_c (nq_m (n := 31) rfl) (sub_c (nq_m (n := 32) rfl) (sub_c (nq_m (n := 33) rfl) (sub_c (nq_m (n := 34) rfl) (sub_c (nq_m (n := 35) rfl) (sub_c (nq_m (n := 36) rfl) (sub_c (nq_m (n := 37) rfl) (sub_c (nq_m (n := 38) rfl) (sub_c (nq_m (n := 39) rfl) (sub_c (nq_m (n := 40) rfl) (sub_c (nq_m (n := 41) rfl) (sub_c (nq_m (n := 42) rfl) (sub_c (nq_m (n := 43) rfl) (sub_c (nq_m (n := 44) rfl) (sub_c (nq_m (n := 45) rfl) (sub_c (nq_m (n := 46) rfl) (sub_c (nq_m (n := 47) rfl) (sub_c (nq_m (n := 48) rfl) (sub_c (nq_m (n := 49) rfl) (sub_c (nq_m (n := 50) rfl) (sub_c (nq_m (n := 51) rfl) (sub_c (nq_m (n := 52) rfl) (sub_c (nq_m (n := 53) rfl) (sub_c (nq_m (n := 54) rfl) (sub_c (nq_m (n := 55) rfl) (sub_c (nq_m (n := 56) rfl) (sub_c (nq_m (n := 57) rfl) (sub_c (nq_m (n := 58) rfl) (sub_c (nq_m (n := 59) rfl) (sub_c (nq_m (n := 60) rfl) (sub_c (nq_m (n := 61) rfl) (sub_c (nq_m (n := 62) rfl) (sub_c (nq_m (n := 63) rfl) (sub_c (nq_m (n := 64) rfl) (sub_c (nq_m (n := 65) rfl) (sub_c (nq_m (n := 66) rfl) (sub_c (nq_m (n := 67) rfl) (sub_c (nq_m (n := 68) rfl) (sub_c (nq_m (n := 69) rfl) (sub_c (nq_m (n := 70) rfl) (sub_c (nq_m (n := 71) rfl) (sub_c (nq_m (n := 72) rfl) (sub_c (nq_m (n := 73) rfl) (sub_c (nq_m (n := 74) rfl) (sub_c (nq_m (n := 75) rfl) (sub_c (nq_m (n := 76) rfl) (sub_c (nq_m (n := 77) rfl) (sub_c (nq_m (n := 78) rfl) (sub_c (nq_m (n := 79) rfl) (sub_c (nq_m (n := 80) rfl) (sub_c (nq_m (n := 81) rfl) (sub_c (nq_m (n := 82) rfl) sub_n))))))))))))))))))))))))))))))))))))))))))))))))))))))))))))))))))))))))))))))) (by decide +kernel)
set_option maxRecDepth 100000 in
theorem gX11_ways_X11_waysWith : GoodIn wsX11_ways (wsV RX11 359 RX11 yX11_waysWith wsX11_waysWith) := goodIn_app (goodIn_sub (sub_c (nq_m (n := 1) rfl) (sub_c (nq_m (n := 2) rfl) (sub_c (nq_m (n := 3) rfl) (sub_c (nq_m (n := 4) rfl) sub_n)))) (by decide +kernel)) ggX11_ways_X11_waysWith
noncomputable def dX11_ways_0_l : List (Nat × Instr × Nat) := [(0, .aload_n 0, 1), (1, .iconst (-1), 1), (2, .iconst (-1), 1), (3, .invokevirtual 359, 3), (6, .lreturn, 1)]
set_option maxRecDepth 100000 in
theorem dX11_ways_0_g : dX11_ways_0_l.all (fun x => decide (decode cX11_ways x.1 = .ok x.2)) = true := by decide +kernel
theorem dX11_ways_0 : decode cX11_ways 0 = .ok (.aload_n 0, 1) := nq_d dX11_ways_0_g (n := 0) rfl
theorem dX11_ways_1 : decode cX11_ways 1 = .ok (.iconst (-1), 1) := nq_d dX11_ways_0_g (n := 1) rfl
theorem dX11_ways_2 : decode cX11_ways 2 = .ok (.iconst (-1), 1) := nq_d dX11_ways_0_g (n := 2) rfl
theorem dX11_ways_3 : decode cX11_ways 3 = .ok (.invokevirtual 359, 3) := nq_d dX11_ways_0_g (n := 3) rfl
theorem dX11_ways_6 : decode cX11_ways 6 = .ok (.lreturn, 1) := nq_d dX11_ways_0_g (n := 4) rfl
set_option maxRecDepth 100000 in
theorem ggX11_sureOf_X11_waysWith : GoodIn wsX11_sureOf wsX11_waysWith := goodIn_sub (sub_c (nq_m (n := 6) rfl) (sub_c (nq_m (n := 7) rfl) (sub_c (nq_m (n := 8) rfl) (sub_c (nq_m (n := 1) rfl) (sub_c (nq_m (n := 9) rfl) (sub_c (nq_m (n := 10) rfl) (sub_c (nq_m (n := 11) rfl) (sub_c (nq_m (n := 5) rfl) (sub_c (nq_m (n := 12) rfl) (sub_c (nq_m (n := 13) rfl) (sub_c (nq_m (n := 14) rfl) (sub_c (nq_m (n := 15) rfl) (sub_c (nq_m (n := 16) rfl) (sub_c (nq_m (n := 17) rfl) (sub_c (nq_m (n := 18) rfl) (sub_c (nq_m (n := 19) rfl) (sub_c (nq_m (n := 20) rfl) (sub_c (nq_m (n := 21) rfl) (sub_c (nq_m (n := 22) rfl) (sub_c (nq_m (n := 23) rfl) (sub_c (nq_m (n := 24) rfl) (sub_c (nq_m (n := 25) rfl) (sub_c (nq_m (n := 26) rfl) (sub_c (nq_m (n := 27) rfl) (sub_c (nq_m (n := 28) rfl) (sub_c (nq_m (n := 29) rfl) (sub_c (nq_m (n := 30) rfl) (sub_c (nq_m (n := 31) rfl) (sub_c (nq_m (n := 32) rfl) (sub_c (nq_m (n := 33) rfl) (sub_c (nq_m (n := 34) rfl) (sub_c (nq_m (n := 35) rfl) (sub_c (nq_m (n := 36) rfl) (sub_c (nq_m (n := 37) rfl) (sub_c (nq_m (n := 38) rfl) (sub_c (nq_m (n := 39) rfl) (sub_c (nq_m (n := 40) rfl) (sub_c (nq_m (n := 41) rfl) (sub_c (nq_m (n := 42) rfl) (sub_c (nq_m (n := 43) rfl) (sub_c (nq_m (n := 44) rfl) (sub_c (nq_m (n := 45) rfl) (sub_c (nq_m (n := 46) rfl) (sub_c (nq_m (n := 47) rfl) (sub_c (nq_m (n := 48) rfl) (sub_c (nq_m (n := 49) rfl) (sub_c (nq_m (n := 50) rfl) (sub_c (nq_m (n := 51) rfl) (sub_c (nq_m (n := 52) rfl) (sub_c (nq_m (n := 53) rfl) (sub_c (nq_m (n := 54) rfl) (sub_c (nq_m (n := 55) rfl) (sub_c (nq_m (n := 56) rfl) (sub_c (nq_m (n := 57) rfl) (sub_c (nq_m (n := 58) rfl) (sub_c (nq_m (n := 59) rfl) (sub_c (nq_m (n := 60) rfl) (sub_c (nq_m (n := 61) rfl) (sub_c (nq_m (n := 62) rfl) (sub_c (nq_m (n := 63) rfl) (sub_c (nq_m (n := 64) rfl) (sub_c (nq_m (n := 65) rfl) (sub_c (nq_m (n := 66) rfl) (sub_c (nq_m (n := 67) rfl) (sub_c (nq_m (n := 68) rfl) (sub_c (nq_m (n := 69) rfl) (sub_c (nq_m (n := 70) rfl) (sub_c (nq_m (n := 71) rfl) (sub_c (nq_m (n := 72) rfl) (sub_c (nq_m (n := 73) rfl) (sub_c (nq_m (n := 74) rfl) (sub_c (nq_m (n := 75) rfl) (sub_c (nq_m (n := 76) rfl) (sub_c (nq_m (n := 77) rfl) (sub_c (nq_m (n := 78) rfl) (sub_c (nq_m (n := 79) rfl) (sub_c (nq_m (n := 80) rfl) (sub_c (nq_m (n := 81) rfl) (sub_c (nq_m (n := 82) rfl) sub_n))))))))))))))))))))))))))))))))))))))))))))))))))))))))))))))))))))))))))))))) (by decide +kernel)
set_option maxRecDepth 100000 in
theorem gX11_sureOf_X11_waysWith : GoodIn wsX11_sureOf (wsV RX11 359 RX11 yX11_waysWith wsX11_waysWith) := goodIn_app (goodIn_sub (sub_c (nq_m (n := 2) rfl) (sub_c (nq_m (n := 3) rfl) (sub_c (nq_m (n := 4) rfl) (sub_c (nq_m (n := 5) rfl) sub_n)))) (by decide +kernel)) ggX11_sureOf_X11_waysWith
set_option maxRecDepth 100000 in
theorem ggX11_sureOf_X11_fitsOf : GoodIn wsX11_sureOf wsX11_fitsOf := goodIn_sub (sub_c (nq_m (n := 12) rfl) (sub_c (nq_m (n := 13) rfl) (sub_c (nq_m (n := 14) rfl) (sub_c (nq_m (n := 15) rfl) (sub_c (nq_m (n := 16) rfl) (sub_c (nq_m (n := 17) rfl) (sub_c (nq_m (n := 18) rfl) (sub_c (nq_m (n := 19) rfl) (sub_c (nq_m (n := 5) rfl) (sub_c (nq_m (n := 20) rfl) (sub_c (nq_m (n := 21) rfl) (sub_c (nq_m (n := 22) rfl) (sub_c (nq_m (n := 23) rfl) (sub_c (nq_m (n := 24) rfl) (sub_c (nq_m (n := 25) rfl) (sub_c (nq_m (n := 26) rfl) (sub_c (nq_m (n := 27) rfl) (sub_c (nq_m (n := 28) rfl) (sub_c (nq_m (n := 29) rfl) (sub_c (nq_m (n := 30) rfl) (sub_c (nq_m (n := 31) rfl) (sub_c (nq_m (n := 32) rfl) (sub_c (nq_m (n := 33) rfl) (sub_c (nq_m (n := 34) rfl) (sub_c (nq_m (n := 35) rfl) (sub_c (nq_m (n := 36) rfl) (sub_c (nq_m (n := 37) rfl) (sub_c (nq_m (n := 38) rfl) (sub_c (nq_m (n := 39) rfl) (sub_c (nq_m (n := 40) rfl) (sub_c (nq_m (n := 41) rfl) (sub_c (nq_m (n := 42) rfl) (sub_c (nq_m (n := 43) rfl) (sub_c (nq_m (n := 44) rfl) (sub_c (nq_m (n := 45) rfl) (sub_c (nq_m (n := 46) rfl) (sub_c (nq_m (n := 47) rfl) (sub_c (nq_m (n := 48) rfl) (sub_c (nq_m (n := 49) rfl) (sub_c (nq_m (n := 50) rfl) (sub_c (nq_m (n := 51) rfl) (sub_c (nq_m (n := 52) rfl) (sub_c (nq_m (n := 53) rfl) (sub_c (nq_m (n := 54) rfl) (sub_c (nq_m (n := 55) rfl) (sub_c (nq_m (n := 56) rfl) (sub_c (nq_m (n := 57) rfl) (sub_c (nq_m (n := 58) rfl) (sub_c (nq_m (n := 59) rfl) (sub_c (nq_m (n := 60) rfl) (sub_c (nq_m (n := 61) rfl) (sub_c (nq_m (n := 62) rfl) (sub_c (nq_m (n := 63) rfl) (sub_c (nq_m (n := 64) rfl) (sub_c (nq_m (n := 65) rfl) (sub_c (nq_m (n := 66) rfl) (sub_c (nq_m (n := 67) rfl) (sub_c (nq_m (n := 68) rfl) (sub_c (nq_m (n := 69) rfl) (sub_c (nq_m (n := 70) rfl) (sub_c (nq_m (n := 71) rfl) (sub_c (nq_m (n := 72) rfl) (sub_c (nq_m (n := 73) rfl) (sub_c (nq_m (n := 74) rfl) (sub_c (nq_m (n := 75) rfl) (sub_c (nq_m (n := 76) rfl) (sub_c (nq_m (n := 77) rfl) (sub_c (nq_m (n := 78) rfl) (sub_c (nq_m (n := 79) rfl) (sub_c (nq_m (n := 80) rfl) (sub_c (nq_m (n := 81) rfl) (sub_c (nq_m (n := 82) rfl) sub_n)))))))))))))))))))))))))))))))))))))))))))))))))))))))))))))))))))))))) (by decide +kernel)
set_option maxRecDepth 100000 in
theorem gX11_sureOf_X11_fitsOf : GoodIn wsX11_sureOf (wsV RX11 356 RX11 yX11_fitsOf wsX11_fitsOf) := goodIn_app (goodIn_sub (sub_c (nq_m (n := 9) rfl) (sub_c (nq_m (n := 10) rfl) (sub_c (nq_m (n := 11) rfl) (sub_c (nq_m (n := 5) rfl) sub_n)))) (by decide +kernel)) ggX11_sureOf_X11_fitsOf
noncomputable def dX11_sureOf_0_l : List (Nat × Instr × Nat) := [(0, .aload_n 0, 1), (1, .iconst (-1), 1), (2, .iconst (-1), 1), (3, .invokevirtual 359, 3), (6, .lstore_n 2, 1), (7, .iconst (-1), 1), (8, .istore 4, 2), (10, .iconst 0, 1), (11, .istore 5, 2), (13, .iload 5, 2), (15, .aload_n 0, 1), (16, .getfield 227, 3), (19, .if_icmp .ge 62, 3), (22, .lload_n 2, 1), (23, .lconst 0, 1), (24, .lcmp, 1), (25, .ifCond .le 56, 3), (28, .aload_n 0, 1), (29, .iload_n 1, 1), (30, .invokevirtual 356, 3), (33, .iload 5, 2), (35, .ishr, 1), (36, .iconst 1, 1), (37, .iand, 1), (38, .iconst 1, 1), (39, .if_icmp .ne 19, 3), (42, .aload_n 0, 1), (43, .iload_n 1, 1), (44, .iload 5, 2), (46, .invokevirtual 359, 3), (49, .lload_n 2, 1), (50, .lcmp, 1), (51, .ifCond .ne 7, 3), (54, .iconst 1, 1), (55, .goto 4, 3), (58, .iconst 0, 1), (59, .istore 6, 2), (61, .iload 6, 2), (63, .ifCond .eq 8, 3), (66, .iload 5, 2)]
set_option maxRecDepth 100000 in
theorem dX11_sureOf_0_g : dX11_sureOf_0_l.all (fun x => decide (decode cX11_sureOf x.1 = .ok x.2)) = true := by decide +kernel
theorem dX11_sureOf_0 : decode cX11_sureOf 0 = .ok (.aload_n 0, 1) := nq_d dX11_sureOf_0_g (n := 0) rfl
theorem dX11_sureOf_1 : decode cX11_sureOf 1 = .ok (.iconst (-1), 1) := nq_d dX11_sureOf_0_g (n := 1) rfl
theorem dX11_sureOf_2 : decode cX11_sureOf 2 = .ok (.iconst (-1), 1) := nq_d dX11_sureOf_0_g (n := 2) rfl
theorem dX11_sureOf_3 : decode cX11_sureOf 3 = .ok (.invokevirtual 359, 3) := nq_d dX11_sureOf_0_g (n := 3) rfl
theorem dX11_sureOf_6 : decode cX11_sureOf 6 = .ok (.lstore_n 2, 1) := nq_d dX11_sureOf_0_g (n := 4) rfl
theorem dX11_sureOf_7 : decode cX11_sureOf 7 = .ok (.iconst (-1), 1) := nq_d dX11_sureOf_0_g (n := 5) rfl
theorem dX11_sureOf_8 : decode cX11_sureOf 8 = .ok (.istore 4, 2) := nq_d dX11_sureOf_0_g (n := 6) rfl
theorem dX11_sureOf_10 : decode cX11_sureOf 10 = .ok (.iconst 0, 1) := nq_d dX11_sureOf_0_g (n := 7) rfl
theorem dX11_sureOf_11 : decode cX11_sureOf 11 = .ok (.istore 5, 2) := nq_d dX11_sureOf_0_g (n := 8) rfl
theorem dX11_sureOf_13 : decode cX11_sureOf 13 = .ok (.iload 5, 2) := nq_d dX11_sureOf_0_g (n := 9) rfl
theorem dX11_sureOf_15 : decode cX11_sureOf 15 = .ok (.aload_n 0, 1) := nq_d dX11_sureOf_0_g (n := 10) rfl
theorem dX11_sureOf_16 : decode cX11_sureOf 16 = .ok (.getfield 227, 3) := nq_d dX11_sureOf_0_g (n := 11) rfl
theorem dX11_sureOf_19 : decode cX11_sureOf 19 = .ok (.if_icmp .ge 62, 3) := nq_d dX11_sureOf_0_g (n := 12) rfl
theorem dX11_sureOf_22 : decode cX11_sureOf 22 = .ok (.lload_n 2, 1) := nq_d dX11_sureOf_0_g (n := 13) rfl
theorem dX11_sureOf_23 : decode cX11_sureOf 23 = .ok (.lconst 0, 1) := nq_d dX11_sureOf_0_g (n := 14) rfl
theorem dX11_sureOf_24 : decode cX11_sureOf 24 = .ok (.lcmp, 1) := nq_d dX11_sureOf_0_g (n := 15) rfl
theorem dX11_sureOf_25 : decode cX11_sureOf 25 = .ok (.ifCond .le 56, 3) := nq_d dX11_sureOf_0_g (n := 16) rfl
theorem dX11_sureOf_28 : decode cX11_sureOf 28 = .ok (.aload_n 0, 1) := nq_d dX11_sureOf_0_g (n := 17) rfl
theorem dX11_sureOf_29 : decode cX11_sureOf 29 = .ok (.iload_n 1, 1) := nq_d dX11_sureOf_0_g (n := 18) rfl
theorem dX11_sureOf_30 : decode cX11_sureOf 30 = .ok (.invokevirtual 356, 3) := nq_d dX11_sureOf_0_g (n := 19) rfl
theorem dX11_sureOf_33 : decode cX11_sureOf 33 = .ok (.iload 5, 2) := nq_d dX11_sureOf_0_g (n := 20) rfl
theorem dX11_sureOf_35 : decode cX11_sureOf 35 = .ok (.ishr, 1) := nq_d dX11_sureOf_0_g (n := 21) rfl
theorem dX11_sureOf_36 : decode cX11_sureOf 36 = .ok (.iconst 1, 1) := nq_d dX11_sureOf_0_g (n := 22) rfl
theorem dX11_sureOf_37 : decode cX11_sureOf 37 = .ok (.iand, 1) := nq_d dX11_sureOf_0_g (n := 23) rfl
theorem dX11_sureOf_38 : decode cX11_sureOf 38 = .ok (.iconst 1, 1) := nq_d dX11_sureOf_0_g (n := 24) rfl
theorem dX11_sureOf_39 : decode cX11_sureOf 39 = .ok (.if_icmp .ne 19, 3) := nq_d dX11_sureOf_0_g (n := 25) rfl
theorem dX11_sureOf_42 : decode cX11_sureOf 42 = .ok (.aload_n 0, 1) := nq_d dX11_sureOf_0_g (n := 26) rfl
theorem dX11_sureOf_43 : decode cX11_sureOf 43 = .ok (.iload_n 1, 1) := nq_d dX11_sureOf_0_g (n := 27) rfl
theorem dX11_sureOf_44 : decode cX11_sureOf 44 = .ok (.iload 5, 2) := nq_d dX11_sureOf_0_g (n := 28) rfl
theorem dX11_sureOf_46 : decode cX11_sureOf 46 = .ok (.invokevirtual 359, 3) := nq_d dX11_sureOf_0_g (n := 29) rfl
theorem dX11_sureOf_49 : decode cX11_sureOf 49 = .ok (.lload_n 2, 1) := nq_d dX11_sureOf_0_g (n := 30) rfl
theorem dX11_sureOf_50 : decode cX11_sureOf 50 = .ok (.lcmp, 1) := nq_d dX11_sureOf_0_g (n := 31) rfl
theorem dX11_sureOf_51 : decode cX11_sureOf 51 = .ok (.ifCond .ne 7, 3) := nq_d dX11_sureOf_0_g (n := 32) rfl
theorem dX11_sureOf_54 : decode cX11_sureOf 54 = .ok (.iconst 1, 1) := nq_d dX11_sureOf_0_g (n := 33) rfl
theorem dX11_sureOf_55 : decode cX11_sureOf 55 = .ok (.goto 4, 3) := nq_d dX11_sureOf_0_g (n := 34) rfl
theorem dX11_sureOf_58 : decode cX11_sureOf 58 = .ok (.iconst 0, 1) := nq_d dX11_sureOf_0_g (n := 35) rfl
theorem dX11_sureOf_59 : decode cX11_sureOf 59 = .ok (.istore 6, 2) := nq_d dX11_sureOf_0_g (n := 36) rfl
theorem dX11_sureOf_61 : decode cX11_sureOf 61 = .ok (.iload 6, 2) := nq_d dX11_sureOf_0_g (n := 37) rfl
theorem dX11_sureOf_63 : decode cX11_sureOf 63 = .ok (.ifCond .eq 8, 3) := nq_d dX11_sureOf_0_g (n := 38) rfl
theorem dX11_sureOf_66 : decode cX11_sureOf 66 = .ok (.iload 5, 2) := nq_d dX11_sureOf_0_g (n := 39) rfl
noncomputable def dX11_sureOf_68_l : List (Nat × Instr × Nat) := [(68, .goto 5, 3), (71, .iload 4, 2), (73, .istore 4, 2), (75, .iinc 5 1, 3), (78, .goto (-65), 3), (81, .iload 4, 2), (83, .ireturn, 1)]
set_option maxRecDepth 100000 in
theorem dX11_sureOf_68_g : dX11_sureOf_68_l.all (fun x => decide (decode cX11_sureOf x.1 = .ok x.2)) = true := by decide +kernel
theorem dX11_sureOf_68 : decode cX11_sureOf 68 = .ok (.goto 5, 3) := nq_d dX11_sureOf_68_g (n := 0) rfl
theorem dX11_sureOf_71 : decode cX11_sureOf 71 = .ok (.iload 4, 2) := nq_d dX11_sureOf_68_g (n := 1) rfl
theorem dX11_sureOf_73 : decode cX11_sureOf 73 = .ok (.istore 4, 2) := nq_d dX11_sureOf_68_g (n := 2) rfl
theorem dX11_sureOf_75 : decode cX11_sureOf 75 = .ok (.iinc 5 1, 3) := nq_d dX11_sureOf_68_g (n := 3) rfl
theorem dX11_sureOf_78 : decode cX11_sureOf 78 = .ok (.goto (-65), 3) := nq_d dX11_sureOf_68_g (n := 4) rfl
theorem dX11_sureOf_81 : decode cX11_sureOf 81 = .ok (.iload 4, 2) := nq_d dX11_sureOf_68_g (n := 5) rfl
theorem dX11_sureOf_83 : decode cX11_sureOf 83 = .ok (.ireturn, 1) := nq_d dX11_sureOf_68_g (n := 6) rfl
set_option maxRecDepth 100000 in
theorem ggX11_sure_X11_isClaim : GoodIn wsX11_sure wsX11_isClaim := goodIn_sub (sub_c (nq_m (n := 5) rfl) (sub_c (nq_m (n := 6) rfl) (sub_c (nq_m (n := 7) rfl) (sub_c (nq_m (n := 8) rfl) (sub_c (nq_m (n := 4) rfl) (sub_c (nq_m (n := 9) rfl) (sub_c (nq_m (n := 36) rfl) (sub_c (nq_m (n := 37) rfl) (sub_c (nq_m (n := 38) rfl) (sub_c (nq_m (n := 39) rfl) (sub_c (nq_m (n := 40) rfl) (sub_c (nq_m (n := 41) rfl) (sub_c (nq_m (n := 42) rfl) (sub_c (nq_m (n := 43) rfl) (sub_c (nq_m (n := 44) rfl) (sub_c (nq_m (n := 45) rfl) (sub_c (nq_m (n := 46) rfl) (sub_c (nq_m (n := 47) rfl) (sub_c (nq_m (n := 48) rfl) (sub_c (nq_m (n := 49) rfl) (sub_c (nq_m (n := 50) rfl) (sub_c (nq_m (n := 51) rfl) (sub_c (nq_m (n := 52) rfl) (sub_c (nq_m (n := 53) rfl) (sub_c (nq_m (n := 54) rfl) (sub_c (nq_m (n := 55) rfl) (sub_c (nq_m (n := 56) rfl) (sub_c (nq_m (n := 57) rfl) (sub_c (nq_m (n := 58) rfl) (sub_c (nq_m (n := 59) rfl) (sub_c (nq_m (n := 60) rfl) (sub_c (nq_m (n := 61) rfl) (sub_c (nq_m (n := 62) rfl) (sub_c (nq_m (n := 63) rfl) (sub_c (nq_m (n := 64) rfl) (sub_c (nq_m (n := 65) rfl) (sub_c (nq_m (n := 66) rfl) (sub_c (nq_m (n := 67) rfl) (sub_c (nq_m (n := 68) rfl) (sub_c (nq_m (n := 69) rfl) (sub_c (nq_m (n := 70) rfl) (sub_c (nq_m (n := 71) rfl) (sub_c (nq_m (n := 72) rfl) (sub_c (nq_m (n := 73) rfl) (sub_c (nq_m (n := 74) rfl) (sub_c (nq_m (n := 75) rfl) (sub_c (nq_m (n := 76) rfl) (sub_c (nq_m (n := 77) rfl) (sub_c (nq_m (n := 78) rfl) (sub_c (nq_m (n := 79) rfl) (sub_c (nq_m (n := 80) rfl) (sub_c (nq_m (n := 81) rfl) (sub_c (nq_m (n := 82) rfl) (sub_c (nq_m (n := 83) rfl) (sub_c (nq_m (n := 84) rfl) (sub_c (nq_m (n := 85) rfl) (sub_c (nq_m (n := 86) rfl) (sub_c (nq_m (n := 87) rfl) (sub_c (nq_m (n := 88) rfl) (sub_c (nq_m (n := 89) rfl) (sub_c (nq_m (n := 90) rfl) (sub_c (nq_m (n := 91) rfl) (sub_c (nq_m (n := 92) rfl) (sub_c (nq_m (n := 93) rfl) sub_n)))))))))))))))))))))))))))))))))))))))))))))))))))))))))))))))) (by decide +kernel)
set_option maxRecDepth 100000 in
theorem gX11_sure_X11_isClaim : GoodIn wsX11_sure (wsV RX11 353 RX11 yX11_isClaim wsX11_isClaim) := goodIn_app (goodIn_sub (sub_c (nq_m (n := 1) rfl) (sub_c (nq_m (n := 2) rfl) (sub_c (nq_m (n := 3) rfl) (sub_c (nq_m (n := 4) rfl) sub_n)))) (by decide +kernel)) ggX11_sure_X11_isClaim
set_option maxRecDepth 100000 in
theorem ggX11_sure_X11_sureOf : GoodIn wsX11_sure wsX11_sureOf := goodIn_sub (sub_c (nq_m (n := 13) rfl) (sub_c (nq_m (n := 14) rfl) (sub_c (nq_m (n := 15) rfl) (sub_c (nq_m (n := 16) rfl) (sub_c (nq_m (n := 17) rfl) (sub_c (nq_m (n := 4) rfl) (sub_c (nq_m (n := 18) rfl) (sub_c (nq_m (n := 6) rfl) (sub_c (nq_m (n := 19) rfl) (sub_c (nq_m (n := 20) rfl) (sub_c (nq_m (n := 21) rfl) (sub_c (nq_m (n := 22) rfl) (sub_c (nq_m (n := 23) rfl) (sub_c (nq_m (n := 24) rfl) (sub_c (nq_m (n := 25) rfl) (sub_c (nq_m (n := 26) rfl) (sub_c (nq_m (n := 27) rfl) (sub_c (nq_m (n := 28) rfl) (sub_c (nq_m (n := 29) rfl) (sub_c (nq_m (n := 30) rfl) (sub_c (nq_m (n := 31) rfl) (sub_c (nq_m (n := 32) rfl) (sub_c (nq_m (n := 33) rfl) (sub_c (nq_m (n := 34) rfl) (sub_c (nq_m (n := 35) rfl) (sub_c (nq_m (n := 36) rfl) (sub_c (nq_m (n := 37) rfl) (sub_c (nq_m (n := 38) rfl) (sub_c (nq_m (n := 39) rfl) (sub_c (nq_m (n := 40) rfl) (sub_c (nq_m (n := 41) rfl) (sub_c (nq_m (n := 42) rfl) (sub_c (nq_m (n := 43) rfl) (sub_c (nq_m (n := 44) rfl) (sub_c (nq_m (n := 45) rfl) (sub_c (nq_m (n := 46) rfl) (sub_c (nq_m (n := 47) rfl) (sub_c (nq_m (n := 48) rfl) (sub_c (nq_m (n := 49) rfl) (sub_c (nq_m (n := 50) rfl) (sub_c (nq_m (n := 51) rfl) (sub_c (nq_m (n := 52) rfl) (sub_c (nq_m (n := 53) rfl) (sub_c (nq_m (n := 54) rfl) (sub_c (nq_m (n := 55) rfl) (sub_c (nq_m (n := 56) rfl) (sub_c (nq_m (n := 57) rfl) (sub_c (nq_m (n := 58) rfl) (sub_c (nq_m (n := 59) rfl) (sub_c (nq_m (n := 60) rfl) (sub_c (nq_m (n := 61) rfl) (sub_c (nq_m (n := 62) rfl) (sub_c (nq_m (n := 63) rfl) (sub_c (nq_m (n := 64) rfl) (sub_c (nq_m (n := 65) rfl) (sub_c (nq_m (n := 66) rfl) (sub_c (nq_m (n := 67) rfl) (sub_c (nq_m (n := 68) rfl) (sub_c (nq_m (n := 69) rfl) (sub_c (nq_m (n := 70) rfl) (sub_c (nq_m (n := 71) rfl) (sub_c (nq_m (n := 72) rfl) (sub_c (nq_m (n := 73) rfl) (sub_c (nq_m (n := 74) rfl) (sub_c (nq_m (n := 75) rfl) (sub_c (nq_m (n := 76) rfl) (sub_c (nq_m (n := 77) rfl) (sub_c (nq_m (n := 78) rfl) (sub_c (nq_m (n := 79) rfl) (sub_c (nq_m (n := 80) rfl) (sub_c (nq_m (n := 81) rfl) (sub_c (nq_m (n := 82) rfl) (sub_c (nq_m (n := 83) rfl) (sub_c (nq_m (n := 84) rfl) (sub_c (nq_m (n := 85) rfl) (sub_c (nq_m (n := 86) rfl) (sub_c (nq_m (n := 87) rfl) (sub_c (nq_m (n := 88) rfl) (sub_c (nq_m (n := 89) rfl) (sub_c (nq_m (n := 90) rfl) (sub_c (nq_m (n := 91) rfl) (sub_c (nq_m (n := 92) rfl) (sub_c (nq_m (n := 93) rfl) sub_n))))))))))))))))))))))))))))))))))))))))))))))))))))))))))))))))))))))))))))))))))) (by decide +kernel)
set_option maxRecDepth 100000 in
theorem gX11_sure_X11_sureOf : GoodIn wsX11_sure (wsV RX11 363 RX11 yX11_sureOf wsX11_sureOf) := goodIn_app (goodIn_sub (sub_c (nq_m (n := 10) rfl) (sub_c (nq_m (n := 11) rfl) (sub_c (nq_m (n := 12) rfl) (sub_c (nq_m (n := 4) rfl) sub_n)))) (by decide +kernel)) ggX11_sure_X11_sureOf
noncomputable def dX11_sure_0_l : List (Nat × Instr × Nat) := [(0, .aload_n 0, 1), (1, .iload_n 1, 1), (2, .invokevirtual 353, 3), (5, .ifCond .eq 11, 3), (8, .aload_n 0, 1), (9, .iload_n 1, 1), (10, .invokevirtual 363, 3), (13, .goto 6, 3), (16, .sipush (-1001), 3), (19, .ireturn, 1)]
set_option maxRecDepth 100000 in
theorem dX11_sure_0_g : dX11_sure_0_l.all (fun x => decide (decode cX11_sure x.1 = .ok x.2)) = true := by decide +kernel
theorem dX11_sure_0 : decode cX11_sure 0 = .ok (.aload_n 0, 1) := nq_d dX11_sure_0_g (n := 0) rfl
theorem dX11_sure_1 : decode cX11_sure 1 = .ok (.iload_n 1, 1) := nq_d dX11_sure_0_g (n := 1) rfl
theorem dX11_sure_2 : decode cX11_sure 2 = .ok (.invokevirtual 353, 3) := nq_d dX11_sure_0_g (n := 2) rfl
theorem dX11_sure_5 : decode cX11_sure 5 = .ok (.ifCond .eq 11, 3) := nq_d dX11_sure_0_g (n := 3) rfl
theorem dX11_sure_8 : decode cX11_sure 8 = .ok (.aload_n 0, 1) := nq_d dX11_sure_0_g (n := 4) rfl
theorem dX11_sure_9 : decode cX11_sure 9 = .ok (.iload_n 1, 1) := nq_d dX11_sure_0_g (n := 5) rfl
theorem dX11_sure_10 : decode cX11_sure 10 = .ok (.invokevirtual 363, 3) := nq_d dX11_sure_0_g (n := 6) rfl
theorem dX11_sure_13 : decode cX11_sure 13 = .ok (.goto 6, 3) := nq_d dX11_sure_0_g (n := 7) rfl
theorem dX11_sure_16 : decode cX11_sure 16 = .ok (.sipush (-1001), 3) := nq_d dX11_sure_0_g (n := 8) rfl
theorem dX11_sure_19 : decode cX11_sure 19 = .ok (.ireturn, 1) := nq_d dX11_sure_0_g (n := 9) rfl
set_option maxRecDepth 100000 in
theorem ggX11_grant_X11_isClaim : GoodIn wsX11_grant wsX11_isClaim := goodIn_sub (sub_c (nq_m (n := 11) rfl) (sub_c (nq_m (n := 4) rfl) (sub_c (nq_m (n := 12) rfl) (sub_c (nq_m (n := 13) rfl) (sub_c (nq_m (n := 10) rfl) (sub_c (nq_m (n := 14) rfl) (sub_c (nq_m (n := 41) rfl) (sub_c (nq_m (n := 42) rfl) (sub_c (nq_m (n := 43) rfl) (sub_c (nq_m (n := 44) rfl) (sub_c (nq_m (n := 45) rfl) (sub_c (nq_m (n := 46) rfl) (sub_c (nq_m (n := 47) rfl) (sub_c (nq_m (n := 48) rfl) (sub_c (nq_m (n := 49) rfl) (sub_c (nq_m (n := 50) rfl) (sub_c (nq_m (n := 51) rfl) (sub_c (nq_m (n := 52) rfl) (sub_c (nq_m (n := 53) rfl) (sub_c (nq_m (n := 54) rfl) (sub_c (nq_m (n := 55) rfl) (sub_c (nq_m (n := 56) rfl) (sub_c (nq_m (n := 57) rfl) (sub_c (nq_m (n := 58) rfl) (sub_c (nq_m (n := 59) rfl) (sub_c (nq_m (n := 60) rfl) (sub_c (nq_m (n := 61) rfl) (sub_c (nq_m (n := 62) rfl) (sub_c (nq_m (n := 63) rfl) (sub_c (nq_m (n := 64) rfl) (sub_c (nq_m (n := 65) rfl) (sub_c (nq_m (n := 66) rfl) (sub_c (nq_m (n := 67) rfl) (sub_c (nq_m (n := 68) rfl) (sub_c (nq_m (n := 69) rfl) (sub_c (nq_m (n := 70) rfl) (sub_c (nq_m (n := 71) rfl) (sub_c (nq_m (n := 72) rfl) (sub_c (nq_m (n := 73) rfl) (sub_c (nq_m (n := 74) rfl) (sub_c (nq_m (n := 75) rfl) (sub_c (nq_m (n := 76) rfl) (sub_c (nq_m (n := 77) rfl) (sub_c (nq_m (n := 78) rfl) (sub_c (nq_m (n := 79) rfl) (sub_c (nq_m (n := 80) rfl) (sub_c (nq_m (n := 81) rfl) (sub_c (nq_m (n := 82) rfl) (sub_c (nq_m (n := 83) rfl) (sub_c (nq_m (n := 84) rfl) (sub_c (nq_m (n := 85) rfl) (sub_c (nq_m (n := 86) rfl) (sub_c (nq_m (n := 87) rfl) (sub_c (nq_m (n := 88) rfl) (sub_c (nq_m (n := 89) rfl) (sub_c (nq_m (n := 90) rfl) (sub_c (nq_m (n := 91) rfl) (sub_c (nq_m (n := 92) rfl) (sub_c (nq_m (n := 93) rfl) (sub_c (nq_m (n := 94) rfl) (sub_c (nq_m (n := 95) rfl) (sub_c (nq_m (n := 96) rfl) (sub_c (nq_m (n := 97) rfl) (sub_c (nq_m (n := 98) rfl) sub_n)))))))))))))))))))))))))))))))))))))))))))))))))))))))))))))))) (by decide +kernel)
set_option maxRecDepth 100000 in
theorem gX11_grant_X11_isClaim : GoodIn wsX11_grant (wsV RX11 353 RX11 yX11_isClaim wsX11_isClaim) := goodIn_app (goodIn_sub (sub_c (nq_m (n := 7) rfl) (sub_c (nq_m (n := 8) rfl) (sub_c (nq_m (n := 9) rfl) (sub_c (nq_m (n := 10) rfl) sub_n)))) (by decide +kernel)) ggX11_grant_X11_isClaim
set_option maxRecDepth 100000 in
theorem ggX11_grant_X11_sureOf : GoodIn wsX11_grant wsX11_sureOf := goodIn_sub (sub_c (nq_m (n := 18) rfl) (sub_c (nq_m (n := 19) rfl) (sub_c (nq_m (n := 20) rfl) (sub_c (nq_m (n := 21) rfl) (sub_c (nq_m (n := 22) rfl) (sub_c (nq_m (n := 10) rfl) (sub_c (nq_m (n := 23) rfl) (sub_c (nq_m (n := 4) rfl) (sub_c (nq_m (n := 24) rfl) (sub_c (nq_m (n := 25) rfl) (sub_c (nq_m (n := 26) rfl) (sub_c (nq_m (n := 27) rfl) (sub_c (nq_m (n := 28) rfl) (sub_c (nq_m (n := 29) rfl) (sub_c (nq_m (n := 2) rfl) (sub_c (nq_m (n := 5) rfl) (sub_c (nq_m (n := 6) rfl) (sub_c (nq_m (n := 30) rfl) (sub_c (nq_m (n := 31) rfl) (sub_c (nq_m (n := 32) rfl) (sub_c (nq_m (n := 33) rfl) (sub_c (nq_m (n := 34) rfl) (sub_c (nq_m (n := 3) rfl) (sub_c (nq_m (n := 35) rfl) (sub_c (nq_m (n := 36) rfl) (sub_c (nq_m (n := 41) rfl) (sub_c (nq_m (n := 42) rfl) (sub_c (nq_m (n := 43) rfl) (sub_c (nq_m (n := 44) rfl) (sub_c (nq_m (n := 45) rfl) (sub_c (nq_m (n := 46) rfl) (sub_c (nq_m (n := 47) rfl) (sub_c (nq_m (n := 48) rfl) (sub_c (nq_m (n := 49) rfl) (sub_c (nq_m (n := 50) rfl) (sub_c (nq_m (n := 51) rfl) (sub_c (nq_m (n := 52) rfl) (sub_c (nq_m (n := 53) rfl) (sub_c (nq_m (n := 54) rfl) (sub_c (nq_m (n := 55) rfl) (sub_c (nq_m (n := 56) rfl) (sub_c (nq_m (n := 57) rfl) (sub_c (nq_m (n := 58) rfl) (sub_c (nq_m (n := 59) rfl) (sub_c (nq_m (n := 60) rfl) (sub_c (nq_m (n := 61) rfl) (sub_c (nq_m (n := 62) rfl) (sub_c (nq_m (n := 63) rfl) (sub_c (nq_m (n := 64) rfl) (sub_c (nq_m (n := 65) rfl) (sub_c (nq_m (n := 66) rfl) (sub_c (nq_m (n := 67) rfl) (sub_c (nq_m (n := 68) rfl) (sub_c (nq_m (n := 69) rfl) (sub_c (nq_m (n := 70) rfl) (sub_c (nq_m (n := 71) rfl) (sub_c (nq_m (n := 72) rfl) (sub_c (nq_m (n := 73) rfl) (sub_c (nq_m (n := 74) rfl) (sub_c (nq_m (n := 75) rfl) (sub_c (nq_m (n := 76) rfl) (sub_c (nq_m (n := 77) rfl) (sub_c (nq_m (n := 78) rfl) (sub_c (nq_m (n := 79) rfl) (sub_c (nq_m (n := 80) rfl) (sub_c (nq_m (n := 81) rfl) (sub_c (nq_m (n := 82) rfl) (sub_c (nq_m (n := 83) rfl) (sub_c (nq_m (n := 84) rfl) (sub_c (nq_m (n := 85) rfl) (sub_c (nq_m (n := 86) rfl) (sub_c (nq_m (n := 87) rfl) (sub_c (nq_m (n := 88) rfl) (sub_c (nq_m (n := 89) rfl) (sub_c (nq_m (n := 90) rfl) (sub_c (nq_m (n := 91) rfl) (sub_c (nq_m (n := 92) rfl) (sub_c (nq_m (n := 93) rfl) (sub_c (nq_m (n := 94) rfl) (sub_c (nq_m (n := 95) rfl) (sub_c (nq_m (n := 96) rfl) (sub_c (nq_m (n := 97) rfl) (sub_c (nq_m (n := 98) rfl) sub_n))))))))))))))))))))))))))))))))))))))))))))))))))))))))))))))))))))))))))))))))))) (by decide +kernel)
set_option maxRecDepth 100000 in
theorem gX11_grant_X11_sureOf : GoodIn wsX11_grant (wsV RX11 363 RX11 yX11_sureOf wsX11_sureOf) := goodIn_app (goodIn_sub (sub_c (nq_m (n := 15) rfl) (sub_c (nq_m (n := 16) rfl) (sub_c (nq_m (n := 17) rfl) (sub_c (nq_m (n := 10) rfl) sub_n)))) (by decide +kernel)) ggX11_grant_X11_sureOf
set_option maxRecDepth 100000 in
theorem ggX11_grant_X11_pegOf : GoodIn wsX11_grant wsX11_pegOf := goodIn_sub (sub_c (nq_m (n := 40) rfl) (sub_c (nq_m (n := 34) rfl) (sub_c (nq_m (n := 3) rfl) (sub_c (nq_m (n := 41) rfl) (sub_c (nq_m (n := 42) rfl) (sub_c (nq_m (n := 43) rfl) (sub_c (nq_m (n := 44) rfl) (sub_c (nq_m (n := 45) rfl) (sub_c (nq_m (n := 46) rfl) (sub_c (nq_m (n := 47) rfl) (sub_c (nq_m (n := 48) rfl) (sub_c (nq_m (n := 49) rfl) (sub_c (nq_m (n := 50) rfl) (sub_c (nq_m (n := 51) rfl) (sub_c (nq_m (n := 52) rfl) (sub_c (nq_m (n := 53) rfl) (sub_c (nq_m (n := 54) rfl) (sub_c (nq_m (n := 55) rfl) (sub_c (nq_m (n := 56) rfl) (sub_c (nq_m (n := 57) rfl) (sub_c (nq_m (n := 58) rfl) (sub_c (nq_m (n := 59) rfl) (sub_c (nq_m (n := 60) rfl) (sub_c (nq_m (n := 61) rfl) (sub_c (nq_m (n := 62) rfl) (sub_c (nq_m (n := 63) rfl) (sub_c (nq_m (n := 64) rfl) (sub_c (nq_m (n := 65) rfl) (sub_c (nq_m (n := 66) rfl) (sub_c (nq_m (n := 67) rfl) (sub_c (nq_m (n := 68) rfl) (sub_c (nq_m (n := 69) rfl) (sub_c (nq_m (n := 70) rfl) (sub_c (nq_m (n := 71) rfl) (sub_c (nq_m (n := 72) rfl) (sub_c (nq_m (n := 73) rfl) (sub_c (nq_m (n := 74) rfl) (sub_c (nq_m (n := 75) rfl) (sub_c (nq_m (n := 76) rfl) (sub_c (nq_m (n := 77) rfl) (sub_c (nq_m (n := 78) rfl) (sub_c (nq_m (n := 79) rfl) (sub_c (nq_m (n := 80) rfl) (sub_c (nq_m (n := 81) rfl) (sub_c (nq_m (n := 82) rfl) (sub_c (nq_m (n := 83) rfl) (sub_c (nq_m (n := 84) rfl) (sub_c (nq_m (n := 85) rfl) (sub_c (nq_m (n := 86) rfl) (sub_c (nq_m (n := 87) rfl) (sub_c (nq_m (n := 88) rfl) (sub_c (nq_m (n := 89) rfl) (sub_c (nq_m (n := 90) rfl) (sub_c (nq_m (n := 91) rfl) (sub_c (nq_m (n := 92) rfl) (sub_c (nq_m (n := 93) rfl) (sub_c (nq_m (n := 94) rfl) (sub_c (nq_m (n := 95) rfl) (sub_c (nq_m (n := 96) rfl) (sub_c (nq_m (n := 97) rfl) (sub_c (nq_m (n := 98) rfl) sub_n))))))))))))))))))))))))))))))))))))))))))))))))))))))))))))) (by decide +kernel)
set_option maxRecDepth 100000 in
theorem gX11_grant_X11_pegOf : GoodIn wsX11_grant (wsV RX11 258 RX11 yX11_pegOf wsX11_pegOf) := goodIn_app (goodIn_sub (sub_c (nq_m (n := 37) rfl) (sub_c (nq_m (n := 38) rfl) (sub_c (nq_m (n := 39) rfl) (sub_c (nq_m (n := 10) rfl) sub_n)))) (by decide +kernel)) ggX11_grant_X11_pegOf
noncomputable def dX11_grant_0_l : List (Nat × Instr × Nat) := [(0, .aload_n 0, 1), (1, .iload_n 1, 1), (2, .invokevirtual 353, 3), (5, .ifCond .ne 7, 3), (8, .sipush (-1001), 3), (11, .ireturn, 1), (12, .aload_n 0, 1), (13, .iload_n 1, 1), (14, .invokevirtual 363, 3), (17, .istore_n 2, 1), (18, .iload_n 2, 1), (19, .ifCond .ge 7, 3), (22, .sipush (-1003), 3), (25, .ireturn, 1), (26, .aload_n 0, 1), (27, .getfield 59, 3), (30, .aload_n 0, 1), (31, .getfield 99, 3), (34, .iload_n 1, 1), (35, .iaload, 1), (36, .iload_n 2, 1), (37, .iastore, 1), (38, .aload_n 0, 1), (39, .getfield 41, 3), (42, .aload_n 0, 1), (43, .iload_n 2, 1), (44, .invokevirtual 258, 3), (47, .iconst (-1), 1), (48, .iastore, 1), (49, .iload_n 1, 1), (50, .istore_n 3, 1), (51, .iload_n 3, 1), (52, .iconst 1, 1), (53, .iadd, 1), (54, .aload_n 0, 1), (55, .getfield 238, 3), (58, .if_icmp .ge 51, 3), (61, .aload_n 0, 1), (62, .getfield 99, 3), (65, .iload_n 3, 1)]
set_option maxRecDepth 100000 in
theorem dX11_grant_0_g : dX11_grant_0_l.all (fun x => decide (decode cX11_grant x.1 = .ok x.2)) = true := by decide +kernel
theorem dX11_grant_0 : decode cX11_grant 0 = .ok (.aload_n 0, 1) := nq_d dX11_grant_0_g (n := 0) rfl
theorem dX11_grant_1 : decode cX11_grant 1 = .ok (.iload_n 1, 1) := nq_d dX11_grant_0_g (n := 1) rfl
theorem dX11_grant_2 : decode cX11_grant 2 = .ok (.invokevirtual 353, 3) := nq_d dX11_grant_0_g (n := 2) rfl
theorem dX11_grant_5 : decode cX11_grant 5 = .ok (.ifCond .ne 7, 3) := nq_d dX11_grant_0_g (n := 3) rfl
theorem dX11_grant_8 : decode cX11_grant 8 = .ok (.sipush (-1001), 3) := nq_d dX11_grant_0_g (n := 4) rfl
theorem dX11_grant_11 : decode cX11_grant 11 = .ok (.ireturn, 1) := nq_d dX11_grant_0_g (n := 5) rfl
theorem dX11_grant_12 : decode cX11_grant 12 = .ok (.aload_n 0, 1) := nq_d dX11_grant_0_g (n := 6) rfl
theorem dX11_grant_13 : decode cX11_grant 13 = .ok (.iload_n 1, 1) := nq_d dX11_grant_0_g (n := 7) rfl
theorem dX11_grant_14 : decode cX11_grant 14 = .ok (.invokevirtual 363, 3) := nq_d dX11_grant_0_g (n := 8) rfl
theorem dX11_grant_17 : decode cX11_grant 17 = .ok (.istore_n 2, 1) := nq_d dX11_grant_0_g (n := 9) rfl
theorem dX11_grant_18 : decode cX11_grant 18 = .ok (.iload_n 2, 1) := nq_d dX11_grant_0_g (n := 10) rfl
theorem dX11_grant_19 : decode cX11_grant 19 = .ok (.ifCond .ge 7, 3) := nq_d dX11_grant_0_g (n := 11) rfl
theorem dX11_grant_22 : decode cX11_grant 22 = .ok (.sipush (-1003), 3) := nq_d dX11_grant_0_g (n := 12) rfl
theorem dX11_grant_25 : decode cX11_grant 25 = .ok (.ireturn, 1) := nq_d dX11_grant_0_g (n := 13) rfl
theorem dX11_grant_26 : decode cX11_grant 26 = .ok (.aload_n 0, 1) := nq_d dX11_grant_0_g (n := 14) rfl
theorem dX11_grant_27 : decode cX11_grant 27 = .ok (.getfield 59, 3) := nq_d dX11_grant_0_g (n := 15) rfl
theorem dX11_grant_30 : decode cX11_grant 30 = .ok (.aload_n 0, 1) := nq_d dX11_grant_0_g (n := 16) rfl
theorem dX11_grant_31 : decode cX11_grant 31 = .ok (.getfield 99, 3) := nq_d dX11_grant_0_g (n := 17) rfl
theorem dX11_grant_34 : decode cX11_grant 34 = .ok (.iload_n 1, 1) := nq_d dX11_grant_0_g (n := 18) rfl
theorem dX11_grant_35 : decode cX11_grant 35 = .ok (.iaload, 1) := nq_d dX11_grant_0_g (n := 19) rfl
theorem dX11_grant_36 : decode cX11_grant 36 = .ok (.iload_n 2, 1) := nq_d dX11_grant_0_g (n := 20) rfl
theorem dX11_grant_37 : decode cX11_grant 37 = .ok (.iastore, 1) := nq_d dX11_grant_0_g (n := 21) rfl
theorem dX11_grant_38 : decode cX11_grant 38 = .ok (.aload_n 0, 1) := nq_d dX11_grant_0_g (n := 22) rfl
theorem dX11_grant_39 : decode cX11_grant 39 = .ok (.getfield 41, 3) := nq_d dX11_grant_0_g (n := 23) rfl
theorem dX11_grant_42 : decode cX11_grant 42 = .ok (.aload_n 0, 1) := nq_d dX11_grant_0_g (n := 24) rfl
theorem dX11_grant_43 : decode cX11_grant 43 = .ok (.iload_n 2, 1) := nq_d dX11_grant_0_g (n := 25) rfl
theorem dX11_grant_44 : decode cX11_grant 44 = .ok (.invokevirtual 258, 3) := nq_d dX11_grant_0_g (n := 26) rfl
theorem dX11_grant_47 : decode cX11_grant 47 = .ok (.iconst (-1), 1) := nq_d dX11_grant_0_g (n := 27) rfl
theorem dX11_grant_48 : decode cX11_grant 48 = .ok (.iastore, 1) := nq_d dX11_grant_0_g (n := 28) rfl
theorem dX11_grant_49 : decode cX11_grant 49 = .ok (.iload_n 1, 1) := nq_d dX11_grant_0_g (n := 29) rfl
theorem dX11_grant_50 : decode cX11_grant 50 = .ok (.istore_n 3, 1) := nq_d dX11_grant_0_g (n := 30) rfl
theorem dX11_grant_51 : decode cX11_grant 51 = .ok (.iload_n 3, 1) := nq_d dX11_grant_0_g (n := 31) rfl
theorem dX11_grant_52 : decode cX11_grant 52 = .ok (.iconst 1, 1) := nq_d dX11_grant_0_g (n := 32) rfl
theorem dX11_grant_53 : decode cX11_grant 53 = .ok (.iadd, 1) := nq_d dX11_grant_0_g (n := 33) rfl
theorem dX11_grant_54 : decode cX11_grant 54 = .ok (.aload_n 0, 1) := nq_d dX11_grant_0_g (n := 34) rfl
theorem dX11_grant_55 : decode cX11_grant 55 = .ok (.getfield 238, 3) := nq_d dX11_grant_0_g (n := 35) rfl
theorem dX11_grant_58 : decode cX11_grant 58 = .ok (.if_icmp .ge 51, 3) := nq_d dX11_grant_0_g (n := 36) rfl
theorem dX11_grant_61 : decode cX11_grant 61 = .ok (.aload_n 0, 1) := nq_d dX11_grant_0_g (n := 37) rfl
theorem dX11_grant_62 : decode cX11_grant 62 = .ok (.getfield 99, 3) := nq_d dX11_grant_0_g (n := 38) rfl
theorem dX11_grant_65 : decode cX11_grant 65 = .ok (.iload_n 3, 1) := nq_d dX11_grant_0_g (n := 39) rfl
noncomputable def dX11_grant_66_l : List (Nat × Instr × Nat) := [(66, .aload_n 0, 1), (67, .getfield 99, 3), (70, .iload_n 3, 1), (71, .iconst 1, 1), (72, .iadd, 1), (73, .iaload, 1), (74, .iastore, 1), (75, .aload_n 0, 1), (76, .getfield 102, 3), (79, .iload_n 3, 1), (80, .aload_n 0, 1), (81, .getfield 102, 3), (84, .iload_n 3, 1), (85, .iconst 1, 1), (86, .iadd, 1), (87, .iaload, 1), (88, .iastore, 1), (89, .aload_n 0, 1), (90, .getfield 105, 3), (93, .iload_n 3, 1), (94, .aload_n 0, 1), (95, .getfield 105, 3), (98, .iload_n 3, 1), (99, .iconst 1, 1), (100, .iadd, 1), (101, .iaload, 1), (102, .iastore, 1), (103, .iinc 3 1, 3), (106, .goto (-55), 3), (109, .aload_n 0, 1), (110, .dup, 1), (111, .getfield 238, 3), (114, .iconst 1, 1), (115, .isub, 1), (116, .putfield 238, 3), (119, .iload_n 2, 1), (120, .ireturn, 1)]
set_option maxRecDepth 100000 in
theorem dX11_grant_66_g : dX11_grant_66_l.all (fun x => decide (decode cX11_grant x.1 = .ok x.2)) = true := by decide +kernel
theorem dX11_grant_66 : decode cX11_grant 66 = .ok (.aload_n 0, 1) := nq_d dX11_grant_66_g (n := 0) rfl
theorem dX11_grant_67 : decode cX11_grant 67 = .ok (.getfield 99, 3) := nq_d dX11_grant_66_g (n := 1) rfl
theorem dX11_grant_70 : decode cX11_grant 70 = .ok (.iload_n 3, 1) := nq_d dX11_grant_66_g (n := 2) rfl
theorem dX11_grant_71 : decode cX11_grant 71 = .ok (.iconst 1, 1) := nq_d dX11_grant_66_g (n := 3) rfl
theorem dX11_grant_72 : decode cX11_grant 72 = .ok (.iadd, 1) := nq_d dX11_grant_66_g (n := 4) rfl
theorem dX11_grant_73 : decode cX11_grant 73 = .ok (.iaload, 1) := nq_d dX11_grant_66_g (n := 5) rfl
theorem dX11_grant_74 : decode cX11_grant 74 = .ok (.iastore, 1) := nq_d dX11_grant_66_g (n := 6) rfl
theorem dX11_grant_75 : decode cX11_grant 75 = .ok (.aload_n 0, 1) := nq_d dX11_grant_66_g (n := 7) rfl
theorem dX11_grant_76 : decode cX11_grant 76 = .ok (.getfield 102, 3) := nq_d dX11_grant_66_g (n := 8) rfl
theorem dX11_grant_79 : decode cX11_grant 79 = .ok (.iload_n 3, 1) := nq_d dX11_grant_66_g (n := 9) rfl
theorem dX11_grant_80 : decode cX11_grant 80 = .ok (.aload_n 0, 1) := nq_d dX11_grant_66_g (n := 10) rfl
theorem dX11_grant_81 : decode cX11_grant 81 = .ok (.getfield 102, 3) := nq_d dX11_grant_66_g (n := 11) rfl
theorem dX11_grant_84 : decode cX11_grant 84 = .ok (.iload_n 3, 1) := nq_d dX11_grant_66_g (n := 12) rfl
theorem dX11_grant_85 : decode cX11_grant 85 = .ok (.iconst 1, 1) := nq_d dX11_grant_66_g (n := 13) rfl
theorem dX11_grant_86 : decode cX11_grant 86 = .ok (.iadd, 1) := nq_d dX11_grant_66_g (n := 14) rfl
theorem dX11_grant_87 : decode cX11_grant 87 = .ok (.iaload, 1) := nq_d dX11_grant_66_g (n := 15) rfl
theorem dX11_grant_88 : decode cX11_grant 88 = .ok (.iastore, 1) := nq_d dX11_grant_66_g (n := 16) rfl
theorem dX11_grant_89 : decode cX11_grant 89 = .ok (.aload_n 0, 1) := nq_d dX11_grant_66_g (n := 17) rfl
theorem dX11_grant_90 : decode cX11_grant 90 = .ok (.getfield 105, 3) := nq_d dX11_grant_66_g (n := 18) rfl
theorem dX11_grant_93 : decode cX11_grant 93 = .ok (.iload_n 3, 1) := nq_d dX11_grant_66_g (n := 19) rfl
theorem dX11_grant_94 : decode cX11_grant 94 = .ok (.aload_n 0, 1) := nq_d dX11_grant_66_g (n := 20) rfl
theorem dX11_grant_95 : decode cX11_grant 95 = .ok (.getfield 105, 3) := nq_d dX11_grant_66_g (n := 21) rfl
theorem dX11_grant_98 : decode cX11_grant 98 = .ok (.iload_n 3, 1) := nq_d dX11_grant_66_g (n := 22) rfl
theorem dX11_grant_99 : decode cX11_grant 99 = .ok (.iconst 1, 1) := nq_d dX11_grant_66_g (n := 23) rfl
theorem dX11_grant_100 : decode cX11_grant 100 = .ok (.iadd, 1) := nq_d dX11_grant_66_g (n := 24) rfl
theorem dX11_grant_101 : decode cX11_grant 101 = .ok (.iaload, 1) := nq_d dX11_grant_66_g (n := 25) rfl
theorem dX11_grant_102 : decode cX11_grant 102 = .ok (.iastore, 1) := nq_d dX11_grant_66_g (n := 26) rfl
theorem dX11_grant_103 : decode cX11_grant 103 = .ok (.iinc 3 1, 3) := nq_d dX11_grant_66_g (n := 27) rfl
theorem dX11_grant_106 : decode cX11_grant 106 = .ok (.goto (-55), 3) := nq_d dX11_grant_66_g (n := 28) rfl
theorem dX11_grant_109 : decode cX11_grant 109 = .ok (.aload_n 0, 1) := nq_d dX11_grant_66_g (n := 29) rfl
theorem dX11_grant_110 : decode cX11_grant 110 = .ok (.dup, 1) := nq_d dX11_grant_66_g (n := 30) rfl
theorem dX11_grant_111 : decode cX11_grant 111 = .ok (.getfield 238, 3) := nq_d dX11_grant_66_g (n := 31) rfl
theorem dX11_grant_114 : decode cX11_grant 114 = .ok (.iconst 1, 1) := nq_d dX11_grant_66_g (n := 32) rfl
theorem dX11_grant_115 : decode cX11_grant 115 = .ok (.isub, 1) := nq_d dX11_grant_66_g (n := 33) rfl
theorem dX11_grant_116 : decode cX11_grant 116 = .ok (.putfield 238, 3) := nq_d dX11_grant_66_g (n := 34) rfl
theorem dX11_grant_119 : decode cX11_grant 119 = .ok (.iload_n 2, 1) := nq_d dX11_grant_66_g (n := 35) rfl
theorem dX11_grant_120 : decode cX11_grant 120 = .ok (.ireturn, 1) := nq_d dX11_grant_66_g (n := 36) rfl
set_option maxRecDepth 100000 in
theorem ggX11_apart_X11_isGuest : GoodIn wsX11_apart wsX11_isGuest := goodIn_sub (sub_c (nq_m (n := 6) rfl) (sub_c (nq_m (n := 7) rfl) (sub_c (nq_m (n := 8) rfl) (sub_c (nq_m (n := 9) rfl) (sub_c (nq_m (n := 5) rfl) (sub_c (nq_m (n := 10) rfl) (sub_c (nq_m (n := 11) rfl) (sub_c (nq_m (n := 12) rfl) (sub_c (nq_m (n := 13) rfl) (sub_c (nq_m (n := 14) rfl) (sub_c (nq_m (n := 15) rfl) (sub_c (nq_m (n := 16) rfl) (sub_c (nq_m (n := 17) rfl) (sub_c (nq_m (n := 18) rfl) (sub_c (nq_m (n := 19) rfl) (sub_c (nq_m (n := 20) rfl) (sub_c (nq_m (n := 21) rfl) (sub_c (nq_m (n := 22) rfl) (sub_c (nq_m (n := 23) rfl) (sub_c (nq_m (n := 24) rfl) (sub_c (nq_m (n := 25) rfl) (sub_c (nq_m (n := 26) rfl) (sub_c (nq_m (n := 27) rfl) (sub_c (nq_m (n := 28) rfl) (sub_c (nq_m (n := 29) rfl) (sub_c (nq_m (n := 30) rfl) (sub_c (nq_m (n := 31) rfl) (sub_c (nq_m (n := 32) rfl) (sub_c (nq_m (n := 33) rfl) (sub_c (nq_m (n := 34) rfl) (sub_c (nq_m (n := 35) rfl) (sub_c (nq_m (n := 36) rfl) (sub_c (nq_m (n := 37) rfl) (sub_c (nq_m (n := 38) rfl) (sub_c (nq_m (n := 39) rfl) (sub_c (nq_m (n := 40) rfl) (sub_c (nq_m (n := 41) rfl) (sub_c (nq_m (n := 42) rfl) (sub_c (nq_m (n := 43) rfl) (sub_c (nq_m (n := 44) rfl) (sub_c (nq_m (n := 45) rfl) (sub_c (nq_m (n := 46) rfl) (sub_c (nq_m (n := 47) rfl) (sub_c (nq_m (n := 48) rfl) (sub_c (nq_m (n := 49) rfl) (sub_c (nq_m (n := 50) rfl) (sub_c (nq_m (n := 51) rfl) (sub_c (nq_m (n := 52) rfl) (sub_c (nq_m (n := 53) rfl) (sub_c (nq_m (n := 54) rfl) (sub_c (nq_m (n := 55) rfl) (sub_c (nq_m (n := 56) rfl) (sub_c (nq_m (n := 57) rfl) (sub_c (nq_m (n := 58) rfl) (sub_c (nq_m (n := 59) rfl) (sub_c (nq_m (n := 60) rfl) (sub_c (nq_m (n := 61) rfl) (sub_c (nq_m (n := 62) rfl) (sub_c (nq_m (n := 63) rfl) (sub_c (nq_m (n := 64) rfl) (sub_c (nq_m (n := 65) rfl) (sub_c (nq_m (n := 66) rfl) (sub_c (nq_m (n := 67) rfl) (sub_c (nq_m (n := 68) rfl) sub_n)))))))))))))))))))))))))))))))))))))))))))))))))))))))))))))))) (by decide +kernel)
set_option maxRecDepth 100000 in
theorem gX11_apart_X11_isGuest : GoodIn wsX11_apart (wsV RX11 255 RX11 yX11_isGuest wsX11_isGuest) := goodIn_app (goodIn_sub (sub_c (nq_m (n := 2) rfl) (sub_c (nq_m (n := 3) rfl) (sub_c (nq_m (n := 4) rfl) (sub_c (nq_m (n := 5) rfl) sub_n)))) (by decide +kernel)) ggX11_apart_X11_isGuest
noncomputable def dX11_apart_0_l : List (Nat × Instr × Nat) := [(0, .aload_n 0, 1), (1, .iload_n 1, 1), (2, .invokevirtual 255, 3), (5, .ifCond .eq 27, 3), (8, .aload_n 0, 1), (9, .iload_n 2, 1), (10, .invokevirtual 255, 3), (13, .ifCond .eq 19, 3), (16, .aload_n 0, 1), (17, .getfield 53, 3), (20, .iload_n 1, 1), (21, .iaload, 1), (22, .aload_n 0, 1), (23, .getfield 53, 3), (26, .iload_n 2, 1), (27, .iaload, 1), (28, .ixor, 1), (29, .goto 6, 3), (32, .sipush (-1001), 3), (35, .ireturn, 1)]
set_option maxRecDepth 100000 in
theorem dX11_apart_0_g : dX11_apart_0_l.all (fun x => decide (decode cX11_apart x.1 = .ok x.2)) = true := by decide +kernel
theorem dX11_apart_0 : decode cX11_apart 0 = .ok (.aload_n 0, 1) := nq_d dX11_apart_0_g (n := 0) rfl
theorem dX11_apart_1 : decode cX11_apart 1 = .ok (.iload_n 1, 1) := nq_d dX11_apart_0_g (n := 1) rfl
theorem dX11_apart_2 : decode cX11_apart 2 = .ok (.invokevirtual 255, 3) := nq_d dX11_apart_0_g (n := 2) rfl
theorem dX11_apart_5 : decode cX11_apart 5 = .ok (.ifCond .eq 27, 3) := nq_d dX11_apart_0_g (n := 3) rfl
theorem dX11_apart_8 : decode cX11_apart 8 = .ok (.aload_n 0, 1) := nq_d dX11_apart_0_g (n := 4) rfl
theorem dX11_apart_9 : decode cX11_apart 9 = .ok (.iload_n 2, 1) := nq_d dX11_apart_0_g (n := 5) rfl
theorem dX11_apart_10 : decode cX11_apart 10 = .ok (.invokevirtual 255, 3) := nq_d dX11_apart_0_g (n := 6) rfl
theorem dX11_apart_13 : decode cX11_apart 13 = .ok (.ifCond .eq 19, 3) := nq_d dX11_apart_0_g (n := 7) rfl
theorem dX11_apart_16 : decode cX11_apart 16 = .ok (.aload_n 0, 1) := nq_d dX11_apart_0_g (n := 8) rfl
theorem dX11_apart_17 : decode cX11_apart 17 = .ok (.getfield 53, 3) := nq_d dX11_apart_0_g (n := 9) rfl
theorem dX11_apart_20 : decode cX11_apart 20 = .ok (.iload_n 1, 1) := nq_d dX11_apart_0_g (n := 10) rfl
theorem dX11_apart_21 : decode cX11_apart 21 = .ok (.iaload, 1) := nq_d dX11_apart_0_g (n := 11) rfl
theorem dX11_apart_22 : decode cX11_apart 22 = .ok (.aload_n 0, 1) := nq_d dX11_apart_0_g (n := 12) rfl
theorem dX11_apart_23 : decode cX11_apart 23 = .ok (.getfield 53, 3) := nq_d dX11_apart_0_g (n := 13) rfl
theorem dX11_apart_26 : decode cX11_apart 26 = .ok (.iload_n 2, 1) := nq_d dX11_apart_0_g (n := 14) rfl
theorem dX11_apart_27 : decode cX11_apart 27 = .ok (.iaload, 1) := nq_d dX11_apart_0_g (n := 15) rfl
theorem dX11_apart_28 : decode cX11_apart 28 = .ok (.ixor, 1) := nq_d dX11_apart_0_g (n := 16) rfl
theorem dX11_apart_29 : decode cX11_apart 29 = .ok (.goto 6, 3) := nq_d dX11_apart_0_g (n := 17) rfl
theorem dX11_apart_32 : decode cX11_apart 32 = .ok (.sipush (-1001), 3) := nq_d dX11_apart_0_g (n := 18) rfl
theorem dX11_apart_35 : decode cX11_apart 35 = .ok (.ireturn, 1) := nq_d dX11_apart_0_g (n := 19) rfl
set_option maxRecDepth 100000 in
theorem ggX11_asks_X11_isClaim : GoodIn wsX11_asks wsX11_isClaim := goodIn_sub (sub_c (nq_m (n := 10) rfl) (sub_c (nq_m (n := 11) rfl) (sub_c (nq_m (n := 12) rfl) (sub_c (nq_m (n := 13) rfl) (sub_c (nq_m (n := 9) rfl) (sub_c (nq_m (n := 14) rfl) (sub_c (nq_m (n := 25) rfl) (sub_c (nq_m (n := 26) rfl) (sub_c (nq_m (n := 27) rfl) (sub_c (nq_m (n := 28) rfl) (sub_c (nq_m (n := 29) rfl) (sub_c (nq_m (n := 30) rfl) (sub_c (nq_m (n := 31) rfl) (sub_c (nq_m (n := 32) rfl) (sub_c (nq_m (n := 33) rfl) (sub_c (nq_m (n := 34) rfl) (sub_c (nq_m (n := 35) rfl) (sub_c (nq_m (n := 36) rfl) (sub_c (nq_m (n := 37) rfl) (sub_c (nq_m (n := 38) rfl) (sub_c (nq_m (n := 39) rfl) (sub_c (nq_m (n := 40) rfl) (sub_c (nq_m (n := 41) rfl) (sub_c (nq_m (n := 42) rfl) (sub_c (nq_m (n := 43) rfl) (sub_c (nq_m (n := 44) rfl) (sub_c (nq_m (n := 45) rfl) (sub_c (nq_m (n := 46) rfl) (sub_c (nq_m (n := 47) rfl) (sub_c (nq_m (n := 48) rfl) (sub_c (nq_m (n := 49) rfl) (sub_c (nq_m (n := 50) rfl) (sub_c (nq_m (n := 51) rfl) (sub_c (nq_m (n := 52) rfl) (sub_c (nq_m (n := 53) rfl) (sub_c (nq_m (n := 54) rfl) (sub_c (nq_m (n := 55) rfl) (sub_c (nq_m (n := 56) rfl) (sub_c (nq_m (n := 57) rfl) (sub_c (nq_m (n := 58) rfl) (sub_c (nq_m (n := 59) rfl) (sub_c (nq_m (n := 60) rfl) (sub_c (nq_m (n := 61) rfl) (sub_c (nq_m (n := 62) rfl) (sub_c (nq_m (n := 63) rfl) (sub_c (nq_m (n := 64) rfl) (sub_c (nq_m (n := 65) rfl) (sub_c (nq_m (n := 66) rfl) (sub_c (nq_m (n := 67) rfl) (sub_c (nq_m (n := 68) rfl) (sub_c (nq_m (n := 69) rfl) (sub_c (nq_m (n := 70) rfl) (sub_c (nq_m (n := 71) rfl) (sub_c (nq_m (n := 72) rfl) (sub_c (nq_m (n := 73) rfl) (sub_c (nq_m (n := 74) rfl) (sub_c (nq_m (n := 75) rfl) (sub_c (nq_m (n := 76) rfl) (sub_c (nq_m (n := 77) rfl) (sub_c (nq_m (n := 78) rfl) (sub_c (nq_m (n := 79) rfl) (sub_c (nq_m (n := 80) rfl) (sub_c (nq_m (n := 81) rfl) (sub_c (nq_m (n := 82) rfl) sub_n)))))))))))))))))))))))))))))))))))))))))))))))))))))))))))))))) (by decide +kernel)
set_option maxRecDepth 100000 in
theorem gX11_asks_X11_isClaim : GoodIn wsX11_asks (wsV RX11 353 RX11 yX11_isClaim wsX11_isClaim) := goodIn_app (goodIn_sub (sub_c (nq_m (n := 6) rfl) (sub_c (nq_m (n := 7) rfl) (sub_c (nq_m (n := 8) rfl) (sub_c (nq_m (n := 9) rfl) sub_n)))) (by decide +kernel)) ggX11_asks_X11_isClaim
set_option maxRecDepth 100000 in
theorem ggX11_asks_X11_fitting : GoodIn wsX11_asks wsX11_fitting := goodIn_sub (sub_c (nq_m (n := 18) rfl) (sub_c (nq_m (n := 19) rfl) (sub_c (nq_m (n := 20) rfl) (sub_c (nq_m (n := 21) rfl) (sub_c (nq_m (n := 4) rfl) (sub_c (nq_m (n := 25) rfl) (sub_c (nq_m (n := 26) rfl) (sub_c (nq_m (n := 27) rfl) (sub_c (nq_m (n := 28) rfl) (sub_c (nq_m (n := 29) rfl) (sub_c (nq_m (n := 30) rfl) (sub_c (nq_m (n := 31) rfl) (sub_c (nq_m (n := 32) rfl) (sub_c (nq_m (n := 33) rfl) (sub_c (nq_m (n := 34) rfl) (sub_c (nq_m (n := 35) rfl) (sub_c (nq_m (n := 36) rfl) (sub_c (nq_m (n := 37) rfl) (sub_c (nq_m (n := 38) rfl) (sub_c (nq_m (n := 39) rfl) (sub_c (nq_m (n := 40) rfl) (sub_c (nq_m (n := 41) rfl) (sub_c (nq_m (n := 42) rfl) (sub_c (nq_m (n := 43) rfl) (sub_c (nq_m (n := 44) rfl) (sub_c (nq_m (n := 45) rfl) (sub_c (nq_m (n := 46) rfl) (sub_c (nq_m (n := 47) rfl) (sub_c (nq_m (n := 48) rfl) (sub_c (nq_m (n := 49) rfl) (sub_c (nq_m (n := 50) rfl) (sub_c (nq_m (n := 51) rfl) (sub_c (nq_m (n := 52) rfl) (sub_c (nq_m (n := 53) rfl) (sub_c (nq_m (n := 54) rfl) (sub_c (nq_m (n := 55) rfl) (sub_c (nq_m (n := 56) rfl) (sub_c (nq_m (n := 57) rfl) (sub_c (nq_m (n := 58) rfl) (sub_c (nq_m (n := 59) rfl) (sub_c (nq_m (n := 60) rfl) (sub_c (nq_m (n := 61) rfl) (sub_c (nq_m (n := 62) rfl) (sub_c (nq_m (n := 63) rfl) (sub_c (nq_m (n := 64) rfl) (sub_c (nq_m (n := 65) rfl) (sub_c (nq_m (n := 66) rfl) (sub_c (nq_m (n := 67) rfl) (sub_c (nq_m (n := 68) rfl) (sub_c (nq_m (n := 69) rfl) (sub_c (nq_m (n := 70) rfl) (sub_c (nq_m (n := 71) rfl) (sub_c (nq_m (n := 72) rfl) (sub_c (nq_m (n := 73) rfl) (sub_c (nq_m (n := 74) rfl) (sub_c (nq_m (n := 75) rfl) (sub_c (nq_m (n := 76) rfl) (sub_c (nq_m (n := 77) rfl) (sub_c (nq_m (n := 78) rfl) (sub_c (nq_m (n := 79) rfl) (sub_c (nq_m (n := 80) rfl) (sub_c (nq_m (n := 81) rfl) (sub_c (nq_m (n := 82) rfl) sub_n))))))))))))))))))))))))))))))))))))))))))))))))))))))))))))))) (by decide +kernel)
set_option maxRecDepth 100000 in
theorem gX11_asks_X11_fitting : GoodIn wsX11_asks (wsV RX11 350 RX11 yX11_fitting wsX11_fitting) := goodIn_app (goodIn_sub (sub_c (nq_m (n := 15) rfl) (sub_c (nq_m (n := 16) rfl) (sub_c (nq_m (n := 17) rfl) (sub_c (nq_m (n := 9) rfl) sub_n)))) (by decide +kernel)) ggX11_asks_X11_fitting
set_option maxRecDepth 100000 in
theorem ggX11_asks_X11_bits : GoodIn wsX11_asks wsX11_bits := goodIn_sub (sub_c (nq_m (n := 24) rfl) sub_n) (by decide +kernel)
set_option maxRecDepth 100000 in
theorem gX11_asks_X11_bits : GoodIn wsX11_asks (va_wsS RX11 341 yX11_bits wsX11_bits) := goodIn_app (goodIn_sub (sub_c (nq_m (n := 22) rfl) (sub_c (nq_m (n := 23) rfl) (sub_c (nq_m (n := 9) rfl) sub_n))) (by decide +kernel)) ggX11_asks_X11_bits
noncomputable def dX11_asks_0_l : List (Nat × Instr × Nat) := [(0, .aload_n 0, 1), (1, .iload_n 1, 1), (2, .invokevirtual 353, 3), (5, .ifCond .ne 7, 3), (8, .sipush (-1001), 3), (11, .ireturn, 1), (12, .aload_n 0, 1), (13, .getfield 99, 3), (16, .iload_n 1, 1), (17, .iaload, 1), (18, .istore_n 2, 1), (19, .iconst (-1), 1), (20, .istore_n 3, 1), (21, .iconst 0, 1), (22, .istore 4, 2), (24, .iload 4, 2), (26, .sipush 256, 3), (29, .if_icmp .ge 87, 3), (32, .aload_n 0, 1), (33, .aload_n 0, 1), (34, .getfield 47, 3), (37, .iload_n 2, 1), (38, .iaload, 1), (39, .aload_n 0, 1), (40, .getfield 102, 3), (43, .iload_n 1, 1), (44, .iaload, 1), (45, .aload_n 0, 1), (46, .getfield 53, 3), (49, .iload_n 2, 1), (50, .iaload, 1), (51, .iload 4, 2), (53, .iand, 1), (54, .ior, 1), (55, .aload_n 0, 1), (56, .getfield 105, 3), (59, .iload_n 1, 1), (60, .iaload, 1), (61, .aload_n 0, 1), (62, .getfield 53, 3)]
set_option maxRecDepth 100000 in
theorem dX11_asks_0_g : dX11_asks_0_l.all (fun x => decide (decode cX11_asks x.1 = .ok x.2)) = true := by decide +kernel
theorem dX11_asks_0 : decode cX11_asks 0 = .ok (.aload_n 0, 1) := nq_d dX11_asks_0_g (n := 0) rfl
theorem dX11_asks_1 : decode cX11_asks 1 = .ok (.iload_n 1, 1) := nq_d dX11_asks_0_g (n := 1) rfl
theorem dX11_asks_2 : decode cX11_asks 2 = .ok (.invokevirtual 353, 3) := nq_d dX11_asks_0_g (n := 2) rfl
theorem dX11_asks_5 : decode cX11_asks 5 = .ok (.ifCond .ne 7, 3) := nq_d dX11_asks_0_g (n := 3) rfl
theorem dX11_asks_8 : decode cX11_asks 8 = .ok (.sipush (-1001), 3) := nq_d dX11_asks_0_g (n := 4) rfl
theorem dX11_asks_11 : decode cX11_asks 11 = .ok (.ireturn, 1) := nq_d dX11_asks_0_g (n := 5) rfl
theorem dX11_asks_12 : decode cX11_asks 12 = .ok (.aload_n 0, 1) := nq_d dX11_asks_0_g (n := 6) rfl
theorem dX11_asks_13 : decode cX11_asks 13 = .ok (.getfield 99, 3) := nq_d dX11_asks_0_g (n := 7) rfl
theorem dX11_asks_16 : decode cX11_asks 16 = .ok (.iload_n 1, 1) := nq_d dX11_asks_0_g (n := 8) rfl
theorem dX11_asks_17 : decode cX11_asks 17 = .ok (.iaload, 1) := nq_d dX11_asks_0_g (n := 9) rfl
theorem dX11_asks_18 : decode cX11_asks 18 = .ok (.istore_n 2, 1) := nq_d dX11_asks_0_g (n := 10) rfl
theorem dX11_asks_19 : decode cX11_asks 19 = .ok (.iconst (-1), 1) := nq_d dX11_asks_0_g (n := 11) rfl
theorem dX11_asks_20 : decode cX11_asks 20 = .ok (.istore_n 3, 1) := nq_d dX11_asks_0_g (n := 12) rfl
theorem dX11_asks_21 : decode cX11_asks 21 = .ok (.iconst 0, 1) := nq_d dX11_asks_0_g (n := 13) rfl
theorem dX11_asks_22 : decode cX11_asks 22 = .ok (.istore 4, 2) := nq_d dX11_asks_0_g (n := 14) rfl
theorem dX11_asks_24 : decode cX11_asks 24 = .ok (.iload 4, 2) := nq_d dX11_asks_0_g (n := 15) rfl
theorem dX11_asks_26 : decode cX11_asks 26 = .ok (.sipush 256, 3) := nq_d dX11_asks_0_g (n := 16) rfl
theorem dX11_asks_29 : decode cX11_asks 29 = .ok (.if_icmp .ge 87, 3) := nq_d dX11_asks_0_g (n := 17) rfl
theorem dX11_asks_32 : decode cX11_asks 32 = .ok (.aload_n 0, 1) := nq_d dX11_asks_0_g (n := 18) rfl
theorem dX11_asks_33 : decode cX11_asks 33 = .ok (.aload_n 0, 1) := nq_d dX11_asks_0_g (n := 19) rfl
theorem dX11_asks_34 : decode cX11_asks 34 = .ok (.getfield 47, 3) := nq_d dX11_asks_0_g (n := 20) rfl
theorem dX11_asks_37 : decode cX11_asks 37 = .ok (.iload_n 2, 1) := nq_d dX11_asks_0_g (n := 21) rfl
theorem dX11_asks_38 : decode cX11_asks 38 = .ok (.iaload, 1) := nq_d dX11_asks_0_g (n := 22) rfl
theorem dX11_asks_39 : decode cX11_asks 39 = .ok (.aload_n 0, 1) := nq_d dX11_asks_0_g (n := 23) rfl
theorem dX11_asks_40 : decode cX11_asks 40 = .ok (.getfield 102, 3) := nq_d dX11_asks_0_g (n := 24) rfl
theorem dX11_asks_43 : decode cX11_asks 43 = .ok (.iload_n 1, 1) := nq_d dX11_asks_0_g (n := 25) rfl
theorem dX11_asks_44 : decode cX11_asks 44 = .ok (.iaload, 1) := nq_d dX11_asks_0_g (n := 26) rfl
theorem dX11_asks_45 : decode cX11_asks 45 = .ok (.aload_n 0, 1) := nq_d dX11_asks_0_g (n := 27) rfl
theorem dX11_asks_46 : decode cX11_asks 46 = .ok (.getfield 53, 3) := nq_d dX11_asks_0_g (n := 28) rfl
theorem dX11_asks_49 : decode cX11_asks 49 = .ok (.iload_n 2, 1) := nq_d dX11_asks_0_g (n := 29) rfl
theorem dX11_asks_50 : decode cX11_asks 50 = .ok (.iaload, 1) := nq_d dX11_asks_0_g (n := 30) rfl
theorem dX11_asks_51 : decode cX11_asks 51 = .ok (.iload 4, 2) := nq_d dX11_asks_0_g (n := 31) rfl
theorem dX11_asks_53 : decode cX11_asks 53 = .ok (.iand, 1) := nq_d dX11_asks_0_g (n := 32) rfl
theorem dX11_asks_54 : decode cX11_asks 54 = .ok (.ior, 1) := nq_d dX11_asks_0_g (n := 33) rfl
theorem dX11_asks_55 : decode cX11_asks 55 = .ok (.aload_n 0, 1) := nq_d dX11_asks_0_g (n := 34) rfl
theorem dX11_asks_56 : decode cX11_asks 56 = .ok (.getfield 105, 3) := nq_d dX11_asks_0_g (n := 35) rfl
theorem dX11_asks_59 : decode cX11_asks 59 = .ok (.iload_n 1, 1) := nq_d dX11_asks_0_g (n := 36) rfl
theorem dX11_asks_60 : decode cX11_asks 60 = .ok (.iaload, 1) := nq_d dX11_asks_0_g (n := 37) rfl
theorem dX11_asks_61 : decode cX11_asks 61 = .ok (.aload_n 0, 1) := nq_d dX11_asks_0_g (n := 38) rfl
theorem dX11_asks_62 : decode cX11_asks 62 = .ok (.getfield 53, 3) := nq_d dX11_asks_0_g (n := 39) rfl
noncomputable def dX11_asks_65_l : List (Nat × Instr × Nat) := [(65, .iload_n 2, 1), (66, .iaload, 1), (67, .iconst (-1), 1), (68, .ixor, 1), (69, .iload 4, 2), (71, .iand, 1), (72, .ior, 1), (73, .invokevirtual 350, 3), (76, .istore 5, 2), (78, .iload 5, 2), (80, .invokestatic 341, 3), (83, .iconst 1, 1), (84, .if_icmp .ne 24, 3), (87, .iload_n 3, 1), (88, .ifCond .lt 15, 3), (91, .iload 4, 2), (93, .invokestatic 341, 3), (96, .iload_n 3, 1), (97, .invokestatic 341, 3), (100, .if_icmp .ge 8, 3), (103, .iload 4, 2), (105, .goto 4, 3), (108, .iload_n 3, 1), (109, .istore_n 3, 1), (110, .iinc 4 1, 3), (113, .goto (-89), 3), (116, .iload_n 3, 1), (117, .ireturn, 1)]
set_option maxRecDepth 100000 in
theorem dX11_asks_65_g : dX11_asks_65_l.all (fun x => decide (decode cX11_asks x.1 = .ok x.2)) = true := by decide +kernel
theorem dX11_asks_65 : decode cX11_asks 65 = .ok (.iload_n 2, 1) := nq_d dX11_asks_65_g (n := 0) rfl
theorem dX11_asks_66 : decode cX11_asks 66 = .ok (.iaload, 1) := nq_d dX11_asks_65_g (n := 1) rfl
theorem dX11_asks_67 : decode cX11_asks 67 = .ok (.iconst (-1), 1) := nq_d dX11_asks_65_g (n := 2) rfl
theorem dX11_asks_68 : decode cX11_asks 68 = .ok (.ixor, 1) := nq_d dX11_asks_65_g (n := 3) rfl
theorem dX11_asks_69 : decode cX11_asks 69 = .ok (.iload 4, 2) := nq_d dX11_asks_65_g (n := 4) rfl
theorem dX11_asks_71 : decode cX11_asks 71 = .ok (.iand, 1) := nq_d dX11_asks_65_g (n := 5) rfl
theorem dX11_asks_72 : decode cX11_asks 72 = .ok (.ior, 1) := nq_d dX11_asks_65_g (n := 6) rfl
theorem dX11_asks_73 : decode cX11_asks 73 = .ok (.invokevirtual 350, 3) := nq_d dX11_asks_65_g (n := 7) rfl
theorem dX11_asks_76 : decode cX11_asks 76 = .ok (.istore 5, 2) := nq_d dX11_asks_65_g (n := 8) rfl
theorem dX11_asks_78 : decode cX11_asks 78 = .ok (.iload 5, 2) := nq_d dX11_asks_65_g (n := 9) rfl
theorem dX11_asks_80 : decode cX11_asks 80 = .ok (.invokestatic 341, 3) := nq_d dX11_asks_65_g (n := 10) rfl
theorem dX11_asks_83 : decode cX11_asks 83 = .ok (.iconst 1, 1) := nq_d dX11_asks_65_g (n := 11) rfl
theorem dX11_asks_84 : decode cX11_asks 84 = .ok (.if_icmp .ne 24, 3) := nq_d dX11_asks_65_g (n := 12) rfl
theorem dX11_asks_87 : decode cX11_asks 87 = .ok (.iload_n 3, 1) := nq_d dX11_asks_65_g (n := 13) rfl
theorem dX11_asks_88 : decode cX11_asks 88 = .ok (.ifCond .lt 15, 3) := nq_d dX11_asks_65_g (n := 14) rfl
theorem dX11_asks_91 : decode cX11_asks 91 = .ok (.iload 4, 2) := nq_d dX11_asks_65_g (n := 15) rfl
theorem dX11_asks_93 : decode cX11_asks 93 = .ok (.invokestatic 341, 3) := nq_d dX11_asks_65_g (n := 16) rfl
theorem dX11_asks_96 : decode cX11_asks 96 = .ok (.iload_n 3, 1) := nq_d dX11_asks_65_g (n := 17) rfl
theorem dX11_asks_97 : decode cX11_asks 97 = .ok (.invokestatic 341, 3) := nq_d dX11_asks_65_g (n := 18) rfl
theorem dX11_asks_100 : decode cX11_asks 100 = .ok (.if_icmp .ge 8, 3) := nq_d dX11_asks_65_g (n := 19) rfl
theorem dX11_asks_103 : decode cX11_asks 103 = .ok (.iload 4, 2) := nq_d dX11_asks_65_g (n := 20) rfl
theorem dX11_asks_105 : decode cX11_asks 105 = .ok (.goto 4, 3) := nq_d dX11_asks_65_g (n := 21) rfl
theorem dX11_asks_108 : decode cX11_asks 108 = .ok (.iload_n 3, 1) := nq_d dX11_asks_65_g (n := 22) rfl
theorem dX11_asks_109 : decode cX11_asks 109 = .ok (.istore_n 3, 1) := nq_d dX11_asks_65_g (n := 23) rfl
theorem dX11_asks_110 : decode cX11_asks 110 = .ok (.iinc 4 1, 3) := nq_d dX11_asks_65_g (n := 24) rfl
theorem dX11_asks_113 : decode cX11_asks 113 = .ok (.goto (-89), 3) := nq_d dX11_asks_65_g (n := 25) rfl
theorem dX11_asks_116 : decode cX11_asks 116 = .ok (.iload_n 3, 1) := nq_d dX11_asks_65_g (n := 26) rfl
theorem dX11_asks_117 : decode cX11_asks 117 = .ok (.ireturn, 1) := nq_d dX11_asks_65_g (n := 27) rfl
noncomputable def dX11_note_0_l : List (Nat × Instr × Nat) := [(0, .aload_n 0, 1), (1, .getfield 112, 3), (4, .aload_n 0, 1), (5, .getfield 366, 3), (8, .iload_n 1, 1), (9, .iastore, 1), (10, .aload_n 0, 1), (11, .dup, 1), (12, .getfield 366, 3), (15, .iconst 1, 1), (16, .iadd, 1), (17, .putfield 366, 3), (20, .return_, 1)]
set_option maxRecDepth 100000 in
theorem dX11_note_0_g : dX11_note_0_l.all (fun x => decide (decode cX11_note x.1 = .ok x.2)) = true := by decide +kernel
theorem dX11_note_0 : decode cX11_note 0 = .ok (.aload_n 0, 1) := nq_d dX11_note_0_g (n := 0) rfl
theorem dX11_note_1 : decode cX11_note 1 = .ok (.getfield 112, 3) := nq_d dX11_note_0_g (n := 1) rfl
theorem dX11_note_4 : decode cX11_note 4 = .ok (.aload_n 0, 1) := nq_d dX11_note_0_g (n := 2) rfl
theorem dX11_note_5 : decode cX11_note 5 = .ok (.getfield 366, 3) := nq_d dX11_note_0_g (n := 3) rfl
theorem dX11_note_8 : decode cX11_note 8 = .ok (.iload_n 1, 1) := nq_d dX11_note_0_g (n := 4) rfl
theorem dX11_note_9 : decode cX11_note 9 = .ok (.iastore, 1) := nq_d dX11_note_0_g (n := 5) rfl
theorem dX11_note_10 : decode cX11_note 10 = .ok (.aload_n 0, 1) := nq_d dX11_note_0_g (n := 6) rfl
theorem dX11_note_11 : decode cX11_note 11 = .ok (.dup, 1) := nq_d dX11_note_0_g (n := 7) rfl
theorem dX11_note_12 : decode cX11_note 12 = .ok (.getfield 366, 3) := nq_d dX11_note_0_g (n := 8) rfl
theorem dX11_note_15 : decode cX11_note 15 = .ok (.iconst 1, 1) := nq_d dX11_note_0_g (n := 9) rfl
theorem dX11_note_16 : decode cX11_note 16 = .ok (.iadd, 1) := nq_d dX11_note_0_g (n := 10) rfl
theorem dX11_note_17 : decode cX11_note 17 = .ok (.putfield 366, 3) := nq_d dX11_note_0_g (n := 11) rfl
theorem dX11_note_20 : decode cX11_note 20 = .ok (.return_, 1) := nq_d dX11_note_0_g (n := 12) rfl
noncomputable def dX11_noted_0_l : List (Nat × Instr × Nat) := [(0, .aload_n 0, 1), (1, .dup, 1), (2, .getfield 366, 3), (5, .iconst 1, 1), (6, .iadd, 1), (7, .putfield 366, 3), (10, .aload_n 0, 1), (11, .getfield 112, 3), (14, .aload_n 0, 1), (15, .getfield 366, 3), (18, .iconst 1, 1), (19, .isub, 1), (20, .iaload, 1), (21, .ireturn, 1)]
set_option maxRecDepth 100000 in
theorem dX11_noted_0_g : dX11_noted_0_l.all (fun x => decide (decode cX11_noted x.1 = .ok x.2)) = true := by decide +kernel
theorem dX11_noted_0 : decode cX11_noted 0 = .ok (.aload_n 0, 1) := nq_d dX11_noted_0_g (n := 0) rfl
theorem dX11_noted_1 : decode cX11_noted 1 = .ok (.dup, 1) := nq_d dX11_noted_0_g (n := 1) rfl
theorem dX11_noted_2 : decode cX11_noted 2 = .ok (.getfield 366, 3) := nq_d dX11_noted_0_g (n := 2) rfl
theorem dX11_noted_5 : decode cX11_noted 5 = .ok (.iconst 1, 1) := nq_d dX11_noted_0_g (n := 3) rfl
theorem dX11_noted_6 : decode cX11_noted 6 = .ok (.iadd, 1) := nq_d dX11_noted_0_g (n := 4) rfl
theorem dX11_noted_7 : decode cX11_noted 7 = .ok (.putfield 366, 3) := nq_d dX11_noted_0_g (n := 5) rfl
theorem dX11_noted_10 : decode cX11_noted 10 = .ok (.aload_n 0, 1) := nq_d dX11_noted_0_g (n := 6) rfl
theorem dX11_noted_11 : decode cX11_noted 11 = .ok (.getfield 112, 3) := nq_d dX11_noted_0_g (n := 7) rfl
theorem dX11_noted_14 : decode cX11_noted 14 = .ok (.aload_n 0, 1) := nq_d dX11_noted_0_g (n := 8) rfl
theorem dX11_noted_15 : decode cX11_noted 15 = .ok (.getfield 366, 3) := nq_d dX11_noted_0_g (n := 9) rfl
theorem dX11_noted_18 : decode cX11_noted 18 = .ok (.iconst 1, 1) := nq_d dX11_noted_0_g (n := 10) rfl
theorem dX11_noted_19 : decode cX11_noted 19 = .ok (.isub, 1) := nq_d dX11_noted_0_g (n := 11) rfl
theorem dX11_noted_20 : decode cX11_noted 20 = .ok (.iaload, 1) := nq_d dX11_noted_0_g (n := 12) rfl
theorem dX11_noted_21 : decode cX11_noted 21 = .ok (.ireturn, 1) := nq_d dX11_noted_0_g (n := 13) rfl
set_option maxRecDepth 100000 in
theorem ggX11_keep_X11_in : GoodIn wsX11_keep wsX11_in := goodIn_sub (sub_c (nq_m (n := 26) rfl) sub_n) (by decide +kernel)
set_option maxRecDepth 100000 in
theorem gX11_keep_X11_in : GoodIn wsX11_keep (va_wsS RX11 126 yX11_in wsX11_in) := goodIn_app (goodIn_sub (sub_c (nq_m (n := 23) rfl) (sub_c (nq_m (n := 24) rfl) (sub_c (nq_m (n := 25) rfl) sub_n))) (by decide +kernel)) ggX11_keep_X11_in
set_option maxRecDepth 100000 in
theorem ggX11_keep_X11_note : GoodIn wsX11_keep wsX11_note := goodIn_sub (sub_c (nq_m (n := 30) rfl) (sub_c (nq_m (n := 31) rfl) (sub_c (nq_m (n := 1) rfl) (sub_c (nq_m (n := 32) rfl) (sub_c (nq_m (n := 33) rfl) (sub_c (nq_m (n := 34) rfl) (sub_c (nq_m (n := 35) rfl) (sub_c (nq_m (n := 36) rfl) (sub_c (nq_m (n := 37) rfl) (sub_c (nq_m (n := 38) rfl) (sub_c (nq_m (n := 39) rfl) (sub_c (nq_m (n := 40) rfl) (sub_c (nq_m (n := 41) rfl) (sub_c (nq_m (n := 42) rfl) (sub_c (nq_m (n := 43) rfl) (sub_c (nq_m (n := 44) rfl) (sub_c (nq_m (n := 45) rfl) (sub_c (nq_m (n := 46) rfl) (sub_c (nq_m (n := 47) rfl) (sub_c (nq_m (n := 48) rfl) (sub_c (nq_m (n := 49) rfl) (sub_c (nq_m (n := 50) rfl) (sub_c (nq_m (n := 51) rfl) (sub_c (nq_m (n := 52) rfl) (sub_c (nq_m (n := 53) rfl) (sub_c (nq_m (n := 54) rfl) (sub_c (nq_m (n := 55) rfl) (sub_c (nq_m (n := 56) rfl) (sub_c (nq_m (n := 57) rfl) (sub_c (nq_m (n := 58) rfl) (sub_c (nq_m (n := 59) rfl) (sub_c (nq_m (n := 60) rfl) (sub_c (nq_m (n := 61) rfl) (sub_c (nq_m (n := 62) rfl) (sub_c (nq_m (n := 63) rfl) (sub_c (nq_m (n := 64) rfl) (sub_c (nq_m (n := 65) rfl) (sub_c (nq_m (n := 66) rfl) (sub_c (nq_m (n := 67) rfl) (sub_c (nq_m (n := 68) rfl) (sub_c (nq_m (n := 69) rfl) (sub_c (nq_m (n := 70) rfl) (sub_c (nq_m (n := 71) rfl) (sub_c (nq_m (n := 72) rfl) (sub_c (nq_m (n := 73) rfl) (sub_c (nq_m (n := 74) rfl) (sub_c (nq_m (n := 75) rfl) (sub_c (nq_m (n := 76) rfl) (sub_c (nq_m (n := 77) rfl) (sub_c (nq_m (n := 78) rfl) (sub_c (nq_m (n := 79) rfl) (sub_c (nq_m (n := 80) rfl) (sub_c (nq_m (n := 81) rfl) (sub_c (nq_m (n := 82) rfl) (sub_c (nq_m (n := 83) rfl) (sub_c (nq_m (n := 84) rfl) (sub_c (nq_m (n := 85) rfl) (sub_c (nq_m (n := 86) rfl) (sub_c (nq_m (n := 87) rfl) (sub_c (nq_m (n := 88) rfl) (sub_c (nq_m (n := 89) rfl) sub_n))))))))))))))))))))))))))))))))))))))))))))))))))))))))))))) (by decide +kernel)
set_option maxRecDepth 100000 in
theorem gX11_keep_X11_note : GoodIn wsX11_keep (wsV RX11 369 RX11 yX11_note wsX11_note) := goodIn_app (goodIn_sub (sub_c (nq_m (n := 27) rfl) (sub_c (nq_m (n := 28) rfl) (sub_c (nq_m (n := 29) rfl) (sub_c (nq_m (n := 25) rfl) sub_n)))) (by decide +kernel)) ggX11_keep_X11_note
noncomputable def dX11_keep_0_l : List (Nat × Instr × Nat) := [(0, .iload_n 1, 1), (1, .i2l, 1), (2, .lconst 0, 1), (3, .lconst 1, 1), (4, .invokestatic 126, 3), (7, .ifCond .ne 7, 3), (10, .sipush (-1001), 3), (13, .ireturn, 1), (14, .aload_n 0, 1), (15, .sipush 900, 3), (18, .iload_n 1, 1), (19, .imul, 1), (20, .putfield 366, 3), (23, .aload_n 0, 1), (24, .aload_n 0, 1), (25, .getfield 224, 3), (28, .invokevirtual 369, 3), (31, .aload_n 0, 1), (32, .aload_n 0, 1), (33, .getfield 227, 3), (36, .invokevirtual 369, 3), (39, .aload_n 0, 1), (40, .aload_n 0, 1), (41, .getfield 215, 3), (44, .invokevirtual 369, 3), (47, .aload_n 0, 1), (48, .aload_n 0, 1), (49, .getfield 238, 3), (52, .invokevirtual 369, 3), (55, .aload_n 0, 1), (56, .aload_n 0, 1), (57, .getfield 241, 3), (60, .invokevirtual 369, 3), (63, .iconst 0, 1), (64, .istore_n 2, 1), (65, .iload_n 2, 1), (66, .bipush 16, 2), (68, .if_icmp .ge 79, 3), (71, .aload_n 0, 1), (72, .aload_n 0, 1)]
set_option maxRecDepth 100000 in
theorem dX11_keep_0_g : dX11_keep_0_l.all (fun x => decide (decode cX11_keep x.1 = .ok x.2)) = true := by decide +kernel
theorem dX11_keep_0 : decode cX11_keep 0 = .ok (.iload_n 1, 1) := nq_d dX11_keep_0_g (n := 0) rfl
theorem dX11_keep_1 : decode cX11_keep 1 = .ok (.i2l, 1) := nq_d dX11_keep_0_g (n := 1) rfl
theorem dX11_keep_2 : decode cX11_keep 2 = .ok (.lconst 0, 1) := nq_d dX11_keep_0_g (n := 2) rfl
theorem dX11_keep_3 : decode cX11_keep 3 = .ok (.lconst 1, 1) := nq_d dX11_keep_0_g (n := 3) rfl
theorem dX11_keep_4 : decode cX11_keep 4 = .ok (.invokestatic 126, 3) := nq_d dX11_keep_0_g (n := 4) rfl
theorem dX11_keep_7 : decode cX11_keep 7 = .ok (.ifCond .ne 7, 3) := nq_d dX11_keep_0_g (n := 5) rfl
theorem dX11_keep_10 : decode cX11_keep 10 = .ok (.sipush (-1001), 3) := nq_d dX11_keep_0_g (n := 6) rfl
theorem dX11_keep_13 : decode cX11_keep 13 = .ok (.ireturn, 1) := nq_d dX11_keep_0_g (n := 7) rfl
theorem dX11_keep_14 : decode cX11_keep 14 = .ok (.aload_n 0, 1) := nq_d dX11_keep_0_g (n := 8) rfl
theorem dX11_keep_15 : decode cX11_keep 15 = .ok (.sipush 900, 3) := nq_d dX11_keep_0_g (n := 9) rfl
theorem dX11_keep_18 : decode cX11_keep 18 = .ok (.iload_n 1, 1) := nq_d dX11_keep_0_g (n := 10) rfl
theorem dX11_keep_19 : decode cX11_keep 19 = .ok (.imul, 1) := nq_d dX11_keep_0_g (n := 11) rfl
theorem dX11_keep_20 : decode cX11_keep 20 = .ok (.putfield 366, 3) := nq_d dX11_keep_0_g (n := 12) rfl
theorem dX11_keep_23 : decode cX11_keep 23 = .ok (.aload_n 0, 1) := nq_d dX11_keep_0_g (n := 13) rfl
theorem dX11_keep_24 : decode cX11_keep 24 = .ok (.aload_n 0, 1) := nq_d dX11_keep_0_g (n := 14) rfl
theorem dX11_keep_25 : decode cX11_keep 25 = .ok (.getfield 224, 3) := nq_d dX11_keep_0_g (n := 15) rfl
theorem dX11_keep_28 : decode cX11_keep 28 = .ok (.invokevirtual 369, 3) := nq_d dX11_keep_0_g (n := 16) rfl
theorem dX11_keep_31 : decode cX11_keep 31 = .ok (.aload_n 0, 1) := nq_d dX11_keep_0_g (n := 17) rfl
theorem dX11_keep_32 : decode cX11_keep 32 = .ok (.aload_n 0, 1) := nq_d dX11_keep_0_g (n := 18) rfl
theorem dX11_keep_33 : decode cX11_keep 33 = .ok (.getfield 227, 3) := nq_d dX11_keep_0_g (n := 19) rfl
theorem dX11_keep_36 : decode cX11_keep 36 = .ok (.invokevirtual 369, 3) := nq_d dX11_keep_0_g (n := 20) rfl
theorem dX11_keep_39 : decode cX11_keep 39 = .ok (.aload_n 0, 1) := nq_d dX11_keep_0_g (n := 21) rfl
theorem dX11_keep_40 : decode cX11_keep 40 = .ok (.aload_n 0, 1) := nq_d dX11_keep_0_g (n := 22) rfl
theorem dX11_keep_41 : decode cX11_keep 41 = .ok (.getfield 215, 3) := nq_d dX11_keep_0_g (n := 23) rfl
theorem dX11_keep_44 : decode cX11_keep 44 = .ok (.invokevirtual 369, 3) := nq_d dX11_keep_0_g (n := 24) rfl
theorem dX11_keep_47 : decode cX11_keep 47 = .ok (.aload_n 0, 1) := nq_d dX11_keep_0_g (n := 25) rfl
theorem dX11_keep_48 : decode cX11_keep 48 = .ok (.aload_n 0, 1) := nq_d dX11_keep_0_g (n := 26) rfl
theorem dX11_keep_49 : decode cX11_keep 49 = .ok (.getfield 238, 3) := nq_d dX11_keep_0_g (n := 27) rfl
theorem dX11_keep_52 : decode cX11_keep 52 = .ok (.invokevirtual 369, 3) := nq_d dX11_keep_0_g (n := 28) rfl
theorem dX11_keep_55 : decode cX11_keep 55 = .ok (.aload_n 0, 1) := nq_d dX11_keep_0_g (n := 29) rfl
theorem dX11_keep_56 : decode cX11_keep 56 = .ok (.aload_n 0, 1) := nq_d dX11_keep_0_g (n := 30) rfl
theorem dX11_keep_57 : decode cX11_keep 57 = .ok (.getfield 241, 3) := nq_d dX11_keep_0_g (n := 31) rfl
theorem dX11_keep_60 : decode cX11_keep 60 = .ok (.invokevirtual 369, 3) := nq_d dX11_keep_0_g (n := 32) rfl
theorem dX11_keep_63 : decode cX11_keep 63 = .ok (.iconst 0, 1) := nq_d dX11_keep_0_g (n := 33) rfl
theorem dX11_keep_64 : decode cX11_keep 64 = .ok (.istore_n 2, 1) := nq_d dX11_keep_0_g (n := 34) rfl
theorem dX11_keep_65 : decode cX11_keep 65 = .ok (.iload_n 2, 1) := nq_d dX11_keep_0_g (n := 35) rfl
theorem dX11_keep_66 : decode cX11_keep 66 = .ok (.bipush 16, 2) := nq_d dX11_keep_0_g (n := 36) rfl
theorem dX11_keep_68 : decode cX11_keep 68 = .ok (.if_icmp .ge 79, 3) := nq_d dX11_keep_0_g (n := 37) rfl
theorem dX11_keep_71 : decode cX11_keep 71 = .ok (.aload_n 0, 1) := nq_d dX11_keep_0_g (n := 38) rfl
theorem dX11_keep_72 : decode cX11_keep 72 = .ok (.aload_n 0, 1) := nq_d dX11_keep_0_g (n := 39) rfl
noncomputable def dX11_keep_73_l : List (Nat × Instr × Nat) := [(73, .getfield 44, 3), (76, .iload_n 2, 1), (77, .iaload, 1), (78, .invokevirtual 369, 3), (81, .aload_n 0, 1), (82, .aload_n 0, 1), (83, .getfield 47, 3), (86, .iload_n 2, 1), (87, .iaload, 1), (88, .invokevirtual 369, 3), (91, .aload_n 0, 1), (92, .aload_n 0, 1), (93, .getfield 50, 3), (96, .iload_n 2, 1), (97, .iaload, 1), (98, .invokevirtual 369, 3), (101, .aload_n 0, 1), (102, .aload_n 0, 1), (103, .getfield 53, 3), (106, .iload_n 2, 1), (107, .iaload, 1), (108, .invokevirtual 369, 3), (111, .aload_n 0, 1), (112, .aload_n 0, 1), (113, .getfield 56, 3), (116, .iload_n 2, 1), (117, .iaload, 1), (118, .invokevirtual 369, 3), (121, .aload_n 0, 1), (122, .aload_n 0, 1), (123, .getfield 59, 3), (126, .iload_n 2, 1), (127, .iaload, 1), (128, .invokevirtual 369, 3), (131, .aload_n 0, 1), (132, .aload_n 0, 1), (133, .getfield 62, 3), (136, .iload_n 2, 1), (137, .iaload, 1), (138, .invokevirtual 369, 3)]
set_option maxRecDepth 100000 in
theorem dX11_keep_73_g : dX11_keep_73_l.all (fun x => decide (decode cX11_keep x.1 = .ok x.2)) = true := by decide +kernel
theorem dX11_keep_73 : decode cX11_keep 73 = .ok (.getfield 44, 3) := nq_d dX11_keep_73_g (n := 0) rfl
theorem dX11_keep_76 : decode cX11_keep 76 = .ok (.iload_n 2, 1) := nq_d dX11_keep_73_g (n := 1) rfl
theorem dX11_keep_77 : decode cX11_keep 77 = .ok (.iaload, 1) := nq_d dX11_keep_73_g (n := 2) rfl
theorem dX11_keep_78 : decode cX11_keep 78 = .ok (.invokevirtual 369, 3) := nq_d dX11_keep_73_g (n := 3) rfl
theorem dX11_keep_81 : decode cX11_keep 81 = .ok (.aload_n 0, 1) := nq_d dX11_keep_73_g (n := 4) rfl
theorem dX11_keep_82 : decode cX11_keep 82 = .ok (.aload_n 0, 1) := nq_d dX11_keep_73_g (n := 5) rfl
theorem dX11_keep_83 : decode cX11_keep 83 = .ok (.getfield 47, 3) := nq_d dX11_keep_73_g (n := 6) rfl
theorem dX11_keep_86 : decode cX11_keep 86 = .ok (.iload_n 2, 1) := nq_d dX11_keep_73_g (n := 7) rfl
theorem dX11_keep_87 : decode cX11_keep 87 = .ok (.iaload, 1) := nq_d dX11_keep_73_g (n := 8) rfl
theorem dX11_keep_88 : decode cX11_keep 88 = .ok (.invokevirtual 369, 3) := nq_d dX11_keep_73_g (n := 9) rfl
theorem dX11_keep_91 : decode cX11_keep 91 = .ok (.aload_n 0, 1) := nq_d dX11_keep_73_g (n := 10) rfl
theorem dX11_keep_92 : decode cX11_keep 92 = .ok (.aload_n 0, 1) := nq_d dX11_keep_73_g (n := 11) rfl
theorem dX11_keep_93 : decode cX11_keep 93 = .ok (.getfield 50, 3) := nq_d dX11_keep_73_g (n := 12) rfl
theorem dX11_keep_96 : decode cX11_keep 96 = .ok (.iload_n 2, 1) := nq_d dX11_keep_73_g (n := 13) rfl
theorem dX11_keep_97 : decode cX11_keep 97 = .ok (.iaload, 1) := nq_d dX11_keep_73_g (n := 14) rfl
theorem dX11_keep_98 : decode cX11_keep 98 = .ok (.invokevirtual 369, 3) := nq_d dX11_keep_73_g (n := 15) rfl
theorem dX11_keep_101 : decode cX11_keep 101 = .ok (.aload_n 0, 1) := nq_d dX11_keep_73_g (n := 16) rfl
theorem dX11_keep_102 : decode cX11_keep 102 = .ok (.aload_n 0, 1) := nq_d dX11_keep_73_g (n := 17) rfl
theorem dX11_keep_103 : decode cX11_keep 103 = .ok (.getfield 53, 3) := nq_d dX11_keep_73_g (n := 18) rfl
theorem dX11_keep_106 : decode cX11_keep 106 = .ok (.iload_n 2, 1) := nq_d dX11_keep_73_g (n := 19) rfl
theorem dX11_keep_107 : decode cX11_keep 107 = .ok (.iaload, 1) := nq_d dX11_keep_73_g (n := 20) rfl
theorem dX11_keep_108 : decode cX11_keep 108 = .ok (.invokevirtual 369, 3) := nq_d dX11_keep_73_g (n := 21) rfl
theorem dX11_keep_111 : decode cX11_keep 111 = .ok (.aload_n 0, 1) := nq_d dX11_keep_73_g (n := 22) rfl
theorem dX11_keep_112 : decode cX11_keep 112 = .ok (.aload_n 0, 1) := nq_d dX11_keep_73_g (n := 23) rfl
theorem dX11_keep_113 : decode cX11_keep 113 = .ok (.getfield 56, 3) := nq_d dX11_keep_73_g (n := 24) rfl
theorem dX11_keep_116 : decode cX11_keep 116 = .ok (.iload_n 2, 1) := nq_d dX11_keep_73_g (n := 25) rfl
theorem dX11_keep_117 : decode cX11_keep 117 = .ok (.iaload, 1) := nq_d dX11_keep_73_g (n := 26) rfl
theorem dX11_keep_118 : decode cX11_keep 118 = .ok (.invokevirtual 369, 3) := nq_d dX11_keep_73_g (n := 27) rfl
theorem dX11_keep_121 : decode cX11_keep 121 = .ok (.aload_n 0, 1) := nq_d dX11_keep_73_g (n := 28) rfl
theorem dX11_keep_122 : decode cX11_keep 122 = .ok (.aload_n 0, 1) := nq_d dX11_keep_73_g (n := 29) rfl
theorem dX11_keep_123 : decode cX11_keep 123 = .ok (.getfield 59, 3) := nq_d dX11_keep_73_g (n := 30) rfl
theorem dX11_keep_126 : decode cX11_keep 126 = .ok (.iload_n 2, 1) := nq_d dX11_keep_73_g (n := 31) rfl
theorem dX11_keep_127 : decode cX11_keep 127 = .ok (.iaload, 1) := nq_d dX11_keep_73_g (n := 32) rfl
theorem dX11_keep_128 : decode cX11_keep 128 = .ok (.invokevirtual 369, 3) := nq_d dX11_keep_73_g (n := 33) rfl
theorem dX11_keep_131 : decode cX11_keep 131 = .ok (.aload_n 0, 1) := nq_d dX11_keep_73_g (n := 34) rfl
theorem dX11_keep_132 : decode cX11_keep 132 = .ok (.aload_n 0, 1) := nq_d dX11_keep_73_g (n := 35) rfl
theorem dX11_keep_133 : decode cX11_keep 133 = .ok (.getfield 62, 3) := nq_d dX11_keep_73_g (n := 36) rfl
theorem dX11_keep_136 : decode cX11_keep 136 = .ok (.iload_n 2, 1) := nq_d dX11_keep_73_g (n := 37) rfl
theorem dX11_keep_137 : decode cX11_keep 137 = .ok (.iaload, 1) := nq_d dX11_keep_73_g (n := 38) rfl
theorem dX11_keep_138 : decode cX11_keep 138 = .ok (.invokevirtual 369, 3) := nq_d dX11_keep_73_g (n := 39) rfl
noncomputable def dX11_keep_141_l : List (Nat × Instr × Nat) := [(141, .iinc 2 1, 3), (144, .goto (-79), 3), (147, .iconst 0, 1), (148, .istore_n 2, 1), (149, .iload_n 2, 1), (150, .bipush 24, 2), (152, .if_icmp .ge 19, 3), (155, .aload_n 0, 1), (156, .aload_n 0, 1), (157, .getfield 41, 3), (160, .iload_n 2, 1), (161, .iaload, 1), (162, .invokevirtual 369, 3), (165, .iinc 2 1, 3), (168, .goto (-19), 3), (171, .iconst 0, 1), (172, .istore_n 2, 1), (173, .iload_n 2, 1), (174, .sipush 420, 3), (177, .if_icmp .ge 19, 3), (180, .aload_n 0, 1), (181, .aload_n 0, 1), (182, .getfield 84, 3), (185, .iload_n 2, 1), (186, .iaload, 1), (187, .invokevirtual 369, 3), (190, .iinc 2 1, 3), (193, .goto (-20), 3), (196, .iconst 0, 1), (197, .istore_n 2, 1), (198, .iload_n 2, 1), (199, .bipush 6, 2), (201, .if_icmp .ge 39, 3), (204, .aload_n 0, 1), (205, .aload_n 0, 1), (206, .getfield 99, 3), (209, .iload_n 2, 1), (210, .iaload, 1), (211, .invokevirtual 369, 3), (214, .aload_n 0, 1)]
set_option maxRecDepth 100000 in
theorem dX11_keep_141_g : dX11_keep_141_l.all (fun x => decide (decode cX11_keep x.1 = .ok x.2)) = true := by decide +kernel
theorem dX11_keep_141 : decode cX11_keep 141 = .ok (.iinc 2 1, 3) := nq_d dX11_keep_141_g (n := 0) rfl
theorem dX11_keep_144 : decode cX11_keep 144 = .ok (.goto (-79), 3) := nq_d dX11_keep_141_g (n := 1) rfl
theorem dX11_keep_147 : decode cX11_keep 147 = .ok (.iconst 0, 1) := nq_d dX11_keep_141_g (n := 2) rfl
theorem dX11_keep_148 : decode cX11_keep 148 = .ok (.istore_n 2, 1) := nq_d dX11_keep_141_g (n := 3) rfl
theorem dX11_keep_149 : decode cX11_keep 149 = .ok (.iload_n 2, 1) := nq_d dX11_keep_141_g (n := 4) rfl
theorem dX11_keep_150 : decode cX11_keep 150 = .ok (.bipush 24, 2) := nq_d dX11_keep_141_g (n := 5) rfl
theorem dX11_keep_152 : decode cX11_keep 152 = .ok (.if_icmp .ge 19, 3) := nq_d dX11_keep_141_g (n := 6) rfl
theorem dX11_keep_155 : decode cX11_keep 155 = .ok (.aload_n 0, 1) := nq_d dX11_keep_141_g (n := 7) rfl
theorem dX11_keep_156 : decode cX11_keep 156 = .ok (.aload_n 0, 1) := nq_d dX11_keep_141_g (n := 8) rfl
theorem dX11_keep_157 : decode cX11_keep 157 = .ok (.getfield 41, 3) := nq_d dX11_keep_141_g (n := 9) rfl
theorem dX11_keep_160 : decode cX11_keep 160 = .ok (.iload_n 2, 1) := nq_d dX11_keep_141_g (n := 10) rfl
theorem dX11_keep_161 : decode cX11_keep 161 = .ok (.iaload, 1) := nq_d dX11_keep_141_g (n := 11) rfl
theorem dX11_keep_162 : decode cX11_keep 162 = .ok (.invokevirtual 369, 3) := nq_d dX11_keep_141_g (n := 12) rfl
theorem dX11_keep_165 : decode cX11_keep 165 = .ok (.iinc 2 1, 3) := nq_d dX11_keep_141_g (n := 13) rfl
theorem dX11_keep_168 : decode cX11_keep 168 = .ok (.goto (-19), 3) := nq_d dX11_keep_141_g (n := 14) rfl
theorem dX11_keep_171 : decode cX11_keep 171 = .ok (.iconst 0, 1) := nq_d dX11_keep_141_g (n := 15) rfl
theorem dX11_keep_172 : decode cX11_keep 172 = .ok (.istore_n 2, 1) := nq_d dX11_keep_141_g (n := 16) rfl
theorem dX11_keep_173 : decode cX11_keep 173 = .ok (.iload_n 2, 1) := nq_d dX11_keep_141_g (n := 17) rfl
theorem dX11_keep_174 : decode cX11_keep 174 = .ok (.sipush 420, 3) := nq_d dX11_keep_141_g (n := 18) rfl
theorem dX11_keep_177 : decode cX11_keep 177 = .ok (.if_icmp .ge 19, 3) := nq_d dX11_keep_141_g (n := 19) rfl
theorem dX11_keep_180 : decode cX11_keep 180 = .ok (.aload_n 0, 1) := nq_d dX11_keep_141_g (n := 20) rfl
theorem dX11_keep_181 : decode cX11_keep 181 = .ok (.aload_n 0, 1) := nq_d dX11_keep_141_g (n := 21) rfl
theorem dX11_keep_182 : decode cX11_keep 182 = .ok (.getfield 84, 3) := nq_d dX11_keep_141_g (n := 22) rfl
theorem dX11_keep_185 : decode cX11_keep 185 = .ok (.iload_n 2, 1) := nq_d dX11_keep_141_g (n := 23) rfl
theorem dX11_keep_186 : decode cX11_keep 186 = .ok (.iaload, 1) := nq_d dX11_keep_141_g (n := 24) rfl
theorem dX11_keep_187 : decode cX11_keep 187 = .ok (.invokevirtual 369, 3) := nq_d dX11_keep_141_g (n := 25) rfl
theorem dX11_keep_190 : decode cX11_keep 190 = .ok (.iinc 2 1, 3) := nq_d dX11_keep_141_g (n := 26) rfl
theorem dX11_keep_193 : decode cX11_keep 193 = .ok (.goto (-20), 3) := nq_d dX11_keep_141_g (n := 27) rfl
theorem dX11_keep_196 : decode cX11_keep 196 = .ok (.iconst 0, 1) := nq_d dX11_keep_141_g (n := 28) rfl
theorem dX11_keep_197 : decode cX11_keep 197 = .ok (.istore_n 2, 1) := nq_d dX11_keep_141_g (n := 29) rfl
theorem dX11_keep_198 : decode cX11_keep 198 = .ok (.iload_n 2, 1) := nq_d dX11_keep_141_g (n := 30) rfl
theorem dX11_keep_199 : decode cX11_keep 199 = .ok (.bipush 6, 2) := nq_d dX11_keep_141_g (n := 31) rfl
theorem dX11_keep_201 : decode cX11_keep 201 = .ok (.if_icmp .ge 39, 3) := nq_d dX11_keep_141_g (n := 32) rfl
theorem dX11_keep_204 : decode cX11_keep 204 = .ok (.aload_n 0, 1) := nq_d dX11_keep_141_g (n := 33) rfl
theorem dX11_keep_205 : decode cX11_keep 205 = .ok (.aload_n 0, 1) := nq_d dX11_keep_141_g (n := 34) rfl
theorem dX11_keep_206 : decode cX11_keep 206 = .ok (.getfield 99, 3) := nq_d dX11_keep_141_g (n := 35) rfl
theorem dX11_keep_209 : decode cX11_keep 209 = .ok (.iload_n 2, 1) := nq_d dX11_keep_141_g (n := 36) rfl
theorem dX11_keep_210 : decode cX11_keep 210 = .ok (.iaload, 1) := nq_d dX11_keep_141_g (n := 37) rfl
theorem dX11_keep_211 : decode cX11_keep 211 = .ok (.invokevirtual 369, 3) := nq_d dX11_keep_141_g (n := 38) rfl
theorem dX11_keep_214 : decode cX11_keep 214 = .ok (.aload_n 0, 1) := nq_d dX11_keep_141_g (n := 39) rfl
noncomputable def dX11_keep_215_l : List (Nat × Instr × Nat) := [(215, .aload_n 0, 1), (216, .getfield 102, 3), (219, .iload_n 2, 1), (220, .iaload, 1), (221, .invokevirtual 369, 3), (224, .aload_n 0, 1), (225, .aload_n 0, 1), (226, .getfield 105, 3), (229, .iload_n 2, 1), (230, .iaload, 1), (231, .invokevirtual 369, 3), (234, .iinc 2 1, 3), (237, .goto (-39), 3), (240, .iconst 0, 1), (241, .istore_n 2, 1), (242, .iload_n 2, 1), (243, .bipush 60, 2), (245, .if_icmp .ge 69, 3), (248, .aload_n 0, 1), (249, .aload_n 0, 1), (250, .getfield 75, 3), (253, .iload_n 2, 1), (254, .iaload, 1), (255, .invokevirtual 369, 3), (258, .aload_n 0, 1), (259, .aload_n 0, 1), (260, .getfield 78, 3), (263, .iload_n 2, 1), (264, .iaload, 1), (265, .invokevirtual 369, 3), (268, .aload_n 0, 1), (269, .aload_n 0, 1), (270, .getfield 81, 3), (273, .iconst 3, 1), (274, .iload_n 2, 1), (275, .imul, 1), (276, .iaload, 1), (277, .invokevirtual 369, 3), (280, .aload_n 0, 1), (281, .aload_n 0, 1)]
set_option maxRecDepth 100000 in
theorem dX11_keep_215_g : dX11_keep_215_l.all (fun x => decide (decode cX11_keep x.1 = .ok x.2)) = true := by decide +kernel
theorem dX11_keep_215 : decode cX11_keep 215 = .ok (.aload_n 0, 1) := nq_d dX11_keep_215_g (n := 0) rfl
theorem dX11_keep_216 : decode cX11_keep 216 = .ok (.getfield 102, 3) := nq_d dX11_keep_215_g (n := 1) rfl
theorem dX11_keep_219 : decode cX11_keep 219 = .ok (.iload_n 2, 1) := nq_d dX11_keep_215_g (n := 2) rfl
theorem dX11_keep_220 : decode cX11_keep 220 = .ok (.iaload, 1) := nq_d dX11_keep_215_g (n := 3) rfl
theorem dX11_keep_221 : decode cX11_keep 221 = .ok (.invokevirtual 369, 3) := nq_d dX11_keep_215_g (n := 4) rfl
theorem dX11_keep_224 : decode cX11_keep 224 = .ok (.aload_n 0, 1) := nq_d dX11_keep_215_g (n := 5) rfl
theorem dX11_keep_225 : decode cX11_keep 225 = .ok (.aload_n 0, 1) := nq_d dX11_keep_215_g (n := 6) rfl
theorem dX11_keep_226 : decode cX11_keep 226 = .ok (.getfield 105, 3) := nq_d dX11_keep_215_g (n := 7) rfl
theorem dX11_keep_229 : decode cX11_keep 229 = .ok (.iload_n 2, 1) := nq_d dX11_keep_215_g (n := 8) rfl
theorem dX11_keep_230 : decode cX11_keep 230 = .ok (.iaload, 1) := nq_d dX11_keep_215_g (n := 9) rfl
theorem dX11_keep_231 : decode cX11_keep 231 = .ok (.invokevirtual 369, 3) := nq_d dX11_keep_215_g (n := 10) rfl
theorem dX11_keep_234 : decode cX11_keep 234 = .ok (.iinc 2 1, 3) := nq_d dX11_keep_215_g (n := 11) rfl
theorem dX11_keep_237 : decode cX11_keep 237 = .ok (.goto (-39), 3) := nq_d dX11_keep_215_g (n := 12) rfl
theorem dX11_keep_240 : decode cX11_keep 240 = .ok (.iconst 0, 1) := nq_d dX11_keep_215_g (n := 13) rfl
theorem dX11_keep_241 : decode cX11_keep 241 = .ok (.istore_n 2, 1) := nq_d dX11_keep_215_g (n := 14) rfl
theorem dX11_keep_242 : decode cX11_keep 242 = .ok (.iload_n 2, 1) := nq_d dX11_keep_215_g (n := 15) rfl
theorem dX11_keep_243 : decode cX11_keep 243 = .ok (.bipush 60, 2) := nq_d dX11_keep_215_g (n := 16) rfl
theorem dX11_keep_245 : decode cX11_keep 245 = .ok (.if_icmp .ge 69, 3) := nq_d dX11_keep_215_g (n := 17) rfl
theorem dX11_keep_248 : decode cX11_keep 248 = .ok (.aload_n 0, 1) := nq_d dX11_keep_215_g (n := 18) rfl
theorem dX11_keep_249 : decode cX11_keep 249 = .ok (.aload_n 0, 1) := nq_d dX11_keep_215_g (n := 19) rfl
theorem dX11_keep_250 : decode cX11_keep 250 = .ok (.getfield 75, 3) := nq_d dX11_keep_215_g (n := 20) rfl
theorem dX11_keep_253 : decode cX11_keep 253 = .ok (.iload_n 2, 1) := nq_d dX11_keep_215_g (n := 21) rfl
theorem dX11_keep_254 : decode cX11_keep 254 = .ok (.iaload, 1) := nq_d dX11_keep_215_g (n := 22) rfl
theorem dX11_keep_255 : decode cX11_keep 255 = .ok (.invokevirtual 369, 3) := nq_d dX11_keep_215_g (n := 23) rfl
theorem dX11_keep_258 : decode cX11_keep 258 = .ok (.aload_n 0, 1) := nq_d dX11_keep_215_g (n := 24) rfl
theorem dX11_keep_259 : decode cX11_keep 259 = .ok (.aload_n 0, 1) := nq_d dX11_keep_215_g (n := 25) rfl
theorem dX11_keep_260 : decode cX11_keep 260 = .ok (.getfield 78, 3) := nq_d dX11_keep_215_g (n := 26) rfl
theorem dX11_keep_263 : decode cX11_keep 263 = .ok (.iload_n 2, 1) := nq_d dX11_keep_215_g (n := 27) rfl
theorem dX11_keep_264 : decode cX11_keep 264 = .ok (.iaload, 1) := nq_d dX11_keep_215_g (n := 28) rfl
theorem dX11_keep_265 : decode cX11_keep 265 = .ok (.invokevirtual 369, 3) := nq_d dX11_keep_215_g (n := 29) rfl
theorem dX11_keep_268 : decode cX11_keep 268 = .ok (.aload_n 0, 1) := nq_d dX11_keep_215_g (n := 30) rfl
theorem dX11_keep_269 : decode cX11_keep 269 = .ok (.aload_n 0, 1) := nq_d dX11_keep_215_g (n := 31) rfl
theorem dX11_keep_270 : decode cX11_keep 270 = .ok (.getfield 81, 3) := nq_d dX11_keep_215_g (n := 32) rfl
theorem dX11_keep_273 : decode cX11_keep 273 = .ok (.iconst 3, 1) := nq_d dX11_keep_215_g (n := 33) rfl
theorem dX11_keep_274 : decode cX11_keep 274 = .ok (.iload_n 2, 1) := nq_d dX11_keep_215_g (n := 34) rfl
theorem dX11_keep_275 : decode cX11_keep 275 = .ok (.imul, 1) := nq_d dX11_keep_215_g (n := 35) rfl
theorem dX11_keep_276 : decode cX11_keep 276 = .ok (.iaload, 1) := nq_d dX11_keep_215_g (n := 36) rfl
theorem dX11_keep_277 : decode cX11_keep 277 = .ok (.invokevirtual 369, 3) := nq_d dX11_keep_215_g (n := 37) rfl
theorem dX11_keep_280 : decode cX11_keep 280 = .ok (.aload_n 0, 1) := nq_d dX11_keep_215_g (n := 38) rfl
theorem dX11_keep_281 : decode cX11_keep 281 = .ok (.aload_n 0, 1) := nq_d dX11_keep_215_g (n := 39) rfl
noncomputable def dX11_keep_282_l : List (Nat × Instr × Nat) := [(282, .getfield 81, 3), (285, .iconst 3, 1), (286, .iload_n 2, 1), (287, .imul, 1), (288, .iconst 1, 1), (289, .iadd, 1), (290, .iaload, 1), (291, .invokevirtual 369, 3), (294, .aload_n 0, 1), (295, .aload_n 0, 1), (296, .getfield 81, 3), (299, .iconst 3, 1), (300, .iload_n 2, 1), (301, .imul, 1), (302, .iconst 2, 1), (303, .iadd, 1), (304, .iaload, 1), (305, .invokevirtual 369, 3), (308, .iinc 2 1, 3), (311, .goto (-69), 3), (314, .aload_n 0, 1), (315, .getfield 115, 3), (318, .iload_n 1, 1), (319, .iconst 1, 1), (320, .bastore, 1), (321, .iconst 1, 1), (322, .ireturn, 1)]
set_option maxRecDepth 100000 in
theorem dX11_keep_282_g : dX11_keep_282_l.all (fun x => decide (decode cX11_keep x.1 = .ok x.2)) = true := by decide +kernel
theorem dX11_keep_282 : decode cX11_keep 282 = .ok (.getfield 81, 3) := nq_d dX11_keep_282_g (n := 0) rfl
theorem dX11_keep_285 : decode cX11_keep 285 = .ok (.iconst 3, 1) := nq_d dX11_keep_282_g (n := 1) rfl
theorem dX11_keep_286 : decode cX11_keep 286 = .ok (.iload_n 2, 1) := nq_d dX11_keep_282_g (n := 2) rfl
theorem dX11_keep_287 : decode cX11_keep 287 = .ok (.imul, 1) := nq_d dX11_keep_282_g (n := 3) rfl
theorem dX11_keep_288 : decode cX11_keep 288 = .ok (.iconst 1, 1) := nq_d dX11_keep_282_g (n := 4) rfl
theorem dX11_keep_289 : decode cX11_keep 289 = .ok (.iadd, 1) := nq_d dX11_keep_282_g (n := 5) rfl
theorem dX11_keep_290 : decode cX11_keep 290 = .ok (.iaload, 1) := nq_d dX11_keep_282_g (n := 6) rfl
theorem dX11_keep_291 : decode cX11_keep 291 = .ok (.invokevirtual 369, 3) := nq_d dX11_keep_282_g (n := 7) rfl
theorem dX11_keep_294 : decode cX11_keep 294 = .ok (.aload_n 0, 1) := nq_d dX11_keep_282_g (n := 8) rfl
theorem dX11_keep_295 : decode cX11_keep 295 = .ok (.aload_n 0, 1) := nq_d dX11_keep_282_g (n := 9) rfl
theorem dX11_keep_296 : decode cX11_keep 296 = .ok (.getfield 81, 3) := nq_d dX11_keep_282_g (n := 10) rfl
theorem dX11_keep_299 : decode cX11_keep 299 = .ok (.iconst 3, 1) := nq_d dX11_keep_282_g (n := 11) rfl
theorem dX11_keep_300 : decode cX11_keep 300 = .ok (.iload_n 2, 1) := nq_d dX11_keep_282_g (n := 12) rfl
theorem dX11_keep_301 : decode cX11_keep 301 = .ok (.imul, 1) := nq_d dX11_keep_282_g (n := 13) rfl
theorem dX11_keep_302 : decode cX11_keep 302 = .ok (.iconst 2, 1) := nq_d dX11_keep_282_g (n := 14) rfl
theorem dX11_keep_303 : decode cX11_keep 303 = .ok (.iadd, 1) := nq_d dX11_keep_282_g (n := 15) rfl
theorem dX11_keep_304 : decode cX11_keep 304 = .ok (.iaload, 1) := nq_d dX11_keep_282_g (n := 16) rfl
theorem dX11_keep_305 : decode cX11_keep 305 = .ok (.invokevirtual 369, 3) := nq_d dX11_keep_282_g (n := 17) rfl
theorem dX11_keep_308 : decode cX11_keep 308 = .ok (.iinc 2 1, 3) := nq_d dX11_keep_282_g (n := 18) rfl
theorem dX11_keep_311 : decode cX11_keep 311 = .ok (.goto (-69), 3) := nq_d dX11_keep_282_g (n := 19) rfl
theorem dX11_keep_314 : decode cX11_keep 314 = .ok (.aload_n 0, 1) := nq_d dX11_keep_282_g (n := 20) rfl
theorem dX11_keep_315 : decode cX11_keep 315 = .ok (.getfield 115, 3) := nq_d dX11_keep_282_g (n := 21) rfl
theorem dX11_keep_318 : decode cX11_keep 318 = .ok (.iload_n 1, 1) := nq_d dX11_keep_282_g (n := 22) rfl
theorem dX11_keep_319 : decode cX11_keep 319 = .ok (.iconst 1, 1) := nq_d dX11_keep_282_g (n := 23) rfl
theorem dX11_keep_320 : decode cX11_keep 320 = .ok (.bastore, 1) := nq_d dX11_keep_282_g (n := 24) rfl
theorem dX11_keep_321 : decode cX11_keep 321 = .ok (.iconst 1, 1) := nq_d dX11_keep_282_g (n := 25) rfl
theorem dX11_keep_322 : decode cX11_keep 322 = .ok (.ireturn, 1) := nq_d dX11_keep_282_g (n := 26) rfl
set_option maxRecDepth 100000 in
theorem ggX11_goBack_X11_in : GoodIn wsX11_goBack wsX11_in := goodIn_sub (sub_c (nq_m (n := 26) rfl) sub_n) (by decide +kernel)
set_option maxRecDepth 100000 in
theorem gX11_goBack_X11_in : GoodIn wsX11_goBack (va_wsS RX11 126 yX11_in wsX11_in) := goodIn_app (goodIn_sub (sub_c (nq_m (n := 23) rfl) (sub_c (nq_m (n := 24) rfl) (sub_c (nq_m (n := 25) rfl) sub_n))) (by decide +kernel)) ggX11_goBack_X11_in
set_option maxRecDepth 100000 in
theorem ggX11_goBack_X11_noted : GoodIn wsX11_goBack wsX11_noted := goodIn_sub (sub_c (nq_m (n := 30) rfl) (sub_c (nq_m (n := 1) rfl) (sub_c (nq_m (n := 31) rfl) (sub_c (nq_m (n := 32) rfl) (sub_c (nq_m (n := 33) rfl) (sub_c (nq_m (n := 34) rfl) (sub_c (nq_m (n := 35) rfl) (sub_c (nq_m (n := 36) rfl) (sub_c (nq_m (n := 37) rfl) (sub_c (nq_m (n := 38) rfl) (sub_c (nq_m (n := 39) rfl) (sub_c (nq_m (n := 40) rfl) (sub_c (nq_m (n := 41) rfl) (sub_c (nq_m (n := 42) rfl) (sub_c (nq_m (n := 43) rfl) (sub_c (nq_m (n := 44) rfl) (sub_c (nq_m (n := 45) rfl) (sub_c (nq_m (n := 46) rfl) (sub_c (nq_m (n := 47) rfl) (sub_c (nq_m (n := 48) rfl) (sub_c (nq_m (n := 49) rfl) (sub_c (nq_m (n := 50) rfl) (sub_c (nq_m (n := 51) rfl) (sub_c (nq_m (n := 52) rfl) (sub_c (nq_m (n := 53) rfl) (sub_c (nq_m (n := 54) rfl) (sub_c (nq_m (n := 55) rfl) (sub_c (nq_m (n := 56) rfl) (sub_c (nq_m (n := 57) rfl) (sub_c (nq_m (n := 58) rfl) (sub_c (nq_m (n := 59) rfl) (sub_c (nq_m (n := 60) rfl) (sub_c (nq_m (n := 61) rfl) (sub_c (nq_m (n := 62) rfl) (sub_c (nq_m (n := 63) rfl) (sub_c (nq_m (n := 64) rfl) (sub_c (nq_m (n := 65) rfl) (sub_c (nq_m (n := 66) rfl) (sub_c (nq_m (n := 67) rfl) (sub_c (nq_m (n := 68) rfl) (sub_c (nq_m (n := 69) rfl) (sub_c (nq_m (n := 70) rfl) (sub_c (nq_m (n := 71) rfl) (sub_c (nq_m (n := 72) rfl) (sub_c (nq_m (n := 73) rfl) (sub_c (nq_m (n := 74) rfl) (sub_c (nq_m (n := 75) rfl) (sub_c (nq_m (n := 76) rfl) (sub_c (nq_m (n := 77) rfl) (sub_c (nq_m (n := 78) rfl) (sub_c (nq_m (n := 79) rfl) (sub_c (nq_m (n := 80) rfl) (sub_c (nq_m (n := 81) rfl) (sub_c (nq_m (n := 82) rfl) (sub_c (nq_m (n := 83) rfl) (sub_c (nq_m (n := 84) rfl) (sub_c (nq_m (n := 85) rfl) (sub_c (nq_m (n := 86) rfl) (sub_c (nq_m (n := 87) rfl) (sub_c (nq_m (n := 88) rfl) (sub_c (nq_m (n := 89) rfl) sub_n))))))))))))))))))))))))))))))))))))))))))))))))))))))))))))) (by decide +kernel)
set_option maxRecDepth 100000 in
theorem gX11_goBack_X11_noted : GoodIn wsX11_goBack (wsV RX11 372 RX11 yX11_noted wsX11_noted) := goodIn_app (goodIn_sub (sub_c (nq_m (n := 27) rfl) (sub_c (nq_m (n := 28) rfl) (sub_c (nq_m (n := 29) rfl) (sub_c (nq_m (n := 25) rfl) sub_n)))) (by decide +kernel)) ggX11_goBack_X11_noted
noncomputable def dX11_goBack_0_l : List (Nat × Instr × Nat) := [(0, .iload_n 1, 1), (1, .i2l, 1), (2, .lconst 0, 1), (3, .lconst 1, 1), (4, .invokestatic 126, 3), (7, .ifCond .ne 7, 3), (10, .sipush (-1001), 3), (13, .ireturn, 1), (14, .aload_n 0, 1), (15, .sipush 900, 3), (18, .iload_n 1, 1), (19, .imul, 1), (20, .putfield 366, 3), (23, .aload_n 0, 1), (24, .getfield 115, 3), (27, .iload_n 1, 1), (28, .baload, 1), (29, .ifCond .eq 14, 3), (32, .aload_n 0, 1), (33, .invokevirtual 372, 3), (36, .aload_n 0, 1), (37, .getfield 224, 3), (40, .if_icmp .eq 7, 3), (43, .sipush (-1003), 3), (46, .ireturn, 1), (47, .aload_n 0, 1), (48, .aload_n 0, 1), (49, .invokevirtual 372, 3), (52, .putfield 227, 3), (55, .aload_n 0, 1), (56, .aload_n 0, 1), (57, .invokevirtual 372, 3), (60, .putfield 215, 3), (63, .aload_n 0, 1), (64, .aload_n 0, 1), (65, .invokevirtual 372, 3), (68, .putfield 238, 3), (71, .aload_n 0, 1), (72, .aload_n 0, 1), (73, .invokevirtual 372, 3)]
set_option maxRecDepth 100000 in
theorem dX11_goBack_0_g : dX11_goBack_0_l.all (fun x => decide (decode cX11_goBack x.1 = .ok x.2)) = true := by decide +kernel
theorem dX11_goBack_0 : decode cX11_goBack 0 = .ok (.iload_n 1, 1) := nq_d dX11_goBack_0_g (n := 0) rfl
theorem dX11_goBack_1 : decode cX11_goBack 1 = .ok (.i2l, 1) := nq_d dX11_goBack_0_g (n := 1) rfl
theorem dX11_goBack_2 : decode cX11_goBack 2 = .ok (.lconst 0, 1) := nq_d dX11_goBack_0_g (n := 2) rfl
theorem dX11_goBack_3 : decode cX11_goBack 3 = .ok (.lconst 1, 1) := nq_d dX11_goBack_0_g (n := 3) rfl
theorem dX11_goBack_4 : decode cX11_goBack 4 = .ok (.invokestatic 126, 3) := nq_d dX11_goBack_0_g (n := 4) rfl
theorem dX11_goBack_7 : decode cX11_goBack 7 = .ok (.ifCond .ne 7, 3) := nq_d dX11_goBack_0_g (n := 5) rfl
theorem dX11_goBack_10 : decode cX11_goBack 10 = .ok (.sipush (-1001), 3) := nq_d dX11_goBack_0_g (n := 6) rfl
theorem dX11_goBack_13 : decode cX11_goBack 13 = .ok (.ireturn, 1) := nq_d dX11_goBack_0_g (n := 7) rfl
theorem dX11_goBack_14 : decode cX11_goBack 14 = .ok (.aload_n 0, 1) := nq_d dX11_goBack_0_g (n := 8) rfl
theorem dX11_goBack_15 : decode cX11_goBack 15 = .ok (.sipush 900, 3) := nq_d dX11_goBack_0_g (n := 9) rfl
theorem dX11_goBack_18 : decode cX11_goBack 18 = .ok (.iload_n 1, 1) := nq_d dX11_goBack_0_g (n := 10) rfl
theorem dX11_goBack_19 : decode cX11_goBack 19 = .ok (.imul, 1) := nq_d dX11_goBack_0_g (n := 11) rfl
theorem dX11_goBack_20 : decode cX11_goBack 20 = .ok (.putfield 366, 3) := nq_d dX11_goBack_0_g (n := 12) rfl
theorem dX11_goBack_23 : decode cX11_goBack 23 = .ok (.aload_n 0, 1) := nq_d dX11_goBack_0_g (n := 13) rfl
theorem dX11_goBack_24 : decode cX11_goBack 24 = .ok (.getfield 115, 3) := nq_d dX11_goBack_0_g (n := 14) rfl
theorem dX11_goBack_27 : decode cX11_goBack 27 = .ok (.iload_n 1, 1) := nq_d dX11_goBack_0_g (n := 15) rfl
theorem dX11_goBack_28 : decode cX11_goBack 28 = .ok (.baload, 1) := nq_d dX11_goBack_0_g (n := 16) rfl
theorem dX11_goBack_29 : decode cX11_goBack 29 = .ok (.ifCond .eq 14, 3) := nq_d dX11_goBack_0_g (n := 17) rfl
theorem dX11_goBack_32 : decode cX11_goBack 32 = .ok (.aload_n 0, 1) := nq_d dX11_goBack_0_g (n := 18) rfl
theorem dX11_goBack_33 : decode cX11_goBack 33 = .ok (.invokevirtual 372, 3) := nq_d dX11_goBack_0_g (n := 19) rfl
theorem dX11_goBack_36 : decode cX11_goBack 36 = .ok (.aload_n 0, 1) := nq_d dX11_goBack_0_g (n := 20) rfl
theorem dX11_goBack_37 : decode cX11_goBack 37 = .ok (.getfield 224, 3) := nq_d dX11_goBack_0_g (n := 21) rfl
theorem dX11_goBack_40 : decode cX11_goBack 40 = .ok (.if_icmp .eq 7, 3) := nq_d dX11_goBack_0_g (n := 22) rfl
theorem dX11_goBack_43 : decode cX11_goBack 43 = .ok (.sipush (-1003), 3) := nq_d dX11_goBack_0_g (n := 23) rfl
theorem dX11_goBack_46 : decode cX11_goBack 46 = .ok (.ireturn, 1) := nq_d dX11_goBack_0_g (n := 24) rfl
theorem dX11_goBack_47 : decode cX11_goBack 47 = .ok (.aload_n 0, 1) := nq_d dX11_goBack_0_g (n := 25) rfl
theorem dX11_goBack_48 : decode cX11_goBack 48 = .ok (.aload_n 0, 1) := nq_d dX11_goBack_0_g (n := 26) rfl
theorem dX11_goBack_49 : decode cX11_goBack 49 = .ok (.invokevirtual 372, 3) := nq_d dX11_goBack_0_g (n := 27) rfl
theorem dX11_goBack_52 : decode cX11_goBack 52 = .ok (.putfield 227, 3) := nq_d dX11_goBack_0_g (n := 28) rfl
theorem dX11_goBack_55 : decode cX11_goBack 55 = .ok (.aload_n 0, 1) := nq_d dX11_goBack_0_g (n := 29) rfl
theorem dX11_goBack_56 : decode cX11_goBack 56 = .ok (.aload_n 0, 1) := nq_d dX11_goBack_0_g (n := 30) rfl
theorem dX11_goBack_57 : decode cX11_goBack 57 = .ok (.invokevirtual 372, 3) := nq_d dX11_goBack_0_g (n := 31) rfl
theorem dX11_goBack_60 : decode cX11_goBack 60 = .ok (.putfield 215, 3) := nq_d dX11_goBack_0_g (n := 32) rfl
theorem dX11_goBack_63 : decode cX11_goBack 63 = .ok (.aload_n 0, 1) := nq_d dX11_goBack_0_g (n := 33) rfl
theorem dX11_goBack_64 : decode cX11_goBack 64 = .ok (.aload_n 0, 1) := nq_d dX11_goBack_0_g (n := 34) rfl
theorem dX11_goBack_65 : decode cX11_goBack 65 = .ok (.invokevirtual 372, 3) := nq_d dX11_goBack_0_g (n := 35) rfl
theorem dX11_goBack_68 : decode cX11_goBack 68 = .ok (.putfield 238, 3) := nq_d dX11_goBack_0_g (n := 36) rfl
theorem dX11_goBack_71 : decode cX11_goBack 71 = .ok (.aload_n 0, 1) := nq_d dX11_goBack_0_g (n := 37) rfl
theorem dX11_goBack_72 : decode cX11_goBack 72 = .ok (.aload_n 0, 1) := nq_d dX11_goBack_0_g (n := 38) rfl
theorem dX11_goBack_73 : decode cX11_goBack 73 = .ok (.invokevirtual 372, 3) := nq_d dX11_goBack_0_g (n := 39) rfl
noncomputable def dX11_goBack_76_l : List (Nat × Instr × Nat) := [(76, .putfield 241, 3), (79, .iconst 0, 1), (80, .istore_n 2, 1), (81, .iload_n 2, 1), (82, .bipush 16, 2), (84, .if_icmp .ge 79, 3), (87, .aload_n 0, 1), (88, .getfield 44, 3), (91, .iload_n 2, 1), (92, .aload_n 0, 1), (93, .invokevirtual 372, 3), (96, .iastore, 1), (97, .aload_n 0, 1), (98, .getfield 47, 3), (101, .iload_n 2, 1), (102, .aload_n 0, 1), (103, .invokevirtual 372, 3), (106, .iastore, 1), (107, .aload_n 0, 1), (108, .getfield 50, 3), (111, .iload_n 2, 1), (112, .aload_n 0, 1), (113, .invokevirtual 372, 3), (116, .iastore, 1), (117, .aload_n 0, 1), (118, .getfield 53, 3), (121, .iload_n 2, 1), (122, .aload_n 0, 1), (123, .invokevirtual 372, 3), (126, .iastore, 1), (127, .aload_n 0, 1), (128, .getfield 56, 3), (131, .iload_n 2, 1), (132, .aload_n 0, 1), (133, .invokevirtual 372, 3), (136, .iastore, 1), (137, .aload_n 0, 1), (138, .getfield 59, 3), (141, .iload_n 2, 1), (142, .aload_n 0, 1)]
set_option maxRecDepth 100000 in
theorem dX11_goBack_76_g : dX11_goBack_76_l.all (fun x => decide (decode cX11_goBack x.1 = .ok x.2)) = true := by decide +kernel
theorem dX11_goBack_76 : decode cX11_goBack 76 = .ok (.putfield 241, 3) := nq_d dX11_goBack_76_g (n := 0) rfl
theorem dX11_goBack_79 : decode cX11_goBack 79 = .ok (.iconst 0, 1) := nq_d dX11_goBack_76_g (n := 1) rfl
theorem dX11_goBack_80 : decode cX11_goBack 80 = .ok (.istore_n 2, 1) := nq_d dX11_goBack_76_g (n := 2) rfl
theorem dX11_goBack_81 : decode cX11_goBack 81 = .ok (.iload_n 2, 1) := nq_d dX11_goBack_76_g (n := 3) rfl
theorem dX11_goBack_82 : decode cX11_goBack 82 = .ok (.bipush 16, 2) := nq_d dX11_goBack_76_g (n := 4) rfl
theorem dX11_goBack_84 : decode cX11_goBack 84 = .ok (.if_icmp .ge 79, 3) := nq_d dX11_goBack_76_g (n := 5) rfl
theorem dX11_goBack_87 : decode cX11_goBack 87 = .ok (.aload_n 0, 1) := nq_d dX11_goBack_76_g (n := 6) rfl
theorem dX11_goBack_88 : decode cX11_goBack 88 = .ok (.getfield 44, 3) := nq_d dX11_goBack_76_g (n := 7) rfl
theorem dX11_goBack_91 : decode cX11_goBack 91 = .ok (.iload_n 2, 1) := nq_d dX11_goBack_76_g (n := 8) rfl
theorem dX11_goBack_92 : decode cX11_goBack 92 = .ok (.aload_n 0, 1) := nq_d dX11_goBack_76_g (n := 9) rfl
theorem dX11_goBack_93 : decode cX11_goBack 93 = .ok (.invokevirtual 372, 3) := nq_d dX11_goBack_76_g (n := 10) rfl
theorem dX11_goBack_96 : decode cX11_goBack 96 = .ok (.iastore, 1) := nq_d dX11_goBack_76_g (n := 11) rfl
theorem dX11_goBack_97 : decode cX11_goBack 97 = .ok (.aload_n 0, 1) := nq_d dX11_goBack_76_g (n := 12) rfl
theorem dX11_goBack_98 : decode cX11_goBack 98 = .ok (.getfield 47, 3) := nq_d dX11_goBack_76_g (n := 13) rfl
theorem dX11_goBack_101 : decode cX11_goBack 101 = .ok (.iload_n 2, 1) := nq_d dX11_goBack_76_g (n := 14) rfl
theorem dX11_goBack_102 : decode cX11_goBack 102 = .ok (.aload_n 0, 1) := nq_d dX11_goBack_76_g (n := 15) rfl
theorem dX11_goBack_103 : decode cX11_goBack 103 = .ok (.invokevirtual 372, 3) := nq_d dX11_goBack_76_g (n := 16) rfl
theorem dX11_goBack_106 : decode cX11_goBack 106 = .ok (.iastore, 1) := nq_d dX11_goBack_76_g (n := 17) rfl
theorem dX11_goBack_107 : decode cX11_goBack 107 = .ok (.aload_n 0, 1) := nq_d dX11_goBack_76_g (n := 18) rfl
theorem dX11_goBack_108 : decode cX11_goBack 108 = .ok (.getfield 50, 3) := nq_d dX11_goBack_76_g (n := 19) rfl
theorem dX11_goBack_111 : decode cX11_goBack 111 = .ok (.iload_n 2, 1) := nq_d dX11_goBack_76_g (n := 20) rfl
theorem dX11_goBack_112 : decode cX11_goBack 112 = .ok (.aload_n 0, 1) := nq_d dX11_goBack_76_g (n := 21) rfl
theorem dX11_goBack_113 : decode cX11_goBack 113 = .ok (.invokevirtual 372, 3) := nq_d dX11_goBack_76_g (n := 22) rfl
theorem dX11_goBack_116 : decode cX11_goBack 116 = .ok (.iastore, 1) := nq_d dX11_goBack_76_g (n := 23) rfl
theorem dX11_goBack_117 : decode cX11_goBack 117 = .ok (.aload_n 0, 1) := nq_d dX11_goBack_76_g (n := 24) rfl
theorem dX11_goBack_118 : decode cX11_goBack 118 = .ok (.getfield 53, 3) := nq_d dX11_goBack_76_g (n := 25) rfl
theorem dX11_goBack_121 : decode cX11_goBack 121 = .ok (.iload_n 2, 1) := nq_d dX11_goBack_76_g (n := 26) rfl
theorem dX11_goBack_122 : decode cX11_goBack 122 = .ok (.aload_n 0, 1) := nq_d dX11_goBack_76_g (n := 27) rfl
theorem dX11_goBack_123 : decode cX11_goBack 123 = .ok (.invokevirtual 372, 3) := nq_d dX11_goBack_76_g (n := 28) rfl
theorem dX11_goBack_126 : decode cX11_goBack 126 = .ok (.iastore, 1) := nq_d dX11_goBack_76_g (n := 29) rfl
theorem dX11_goBack_127 : decode cX11_goBack 127 = .ok (.aload_n 0, 1) := nq_d dX11_goBack_76_g (n := 30) rfl
theorem dX11_goBack_128 : decode cX11_goBack 128 = .ok (.getfield 56, 3) := nq_d dX11_goBack_76_g (n := 31) rfl
theorem dX11_goBack_131 : decode cX11_goBack 131 = .ok (.iload_n 2, 1) := nq_d dX11_goBack_76_g (n := 32) rfl
theorem dX11_goBack_132 : decode cX11_goBack 132 = .ok (.aload_n 0, 1) := nq_d dX11_goBack_76_g (n := 33) rfl
theorem dX11_goBack_133 : decode cX11_goBack 133 = .ok (.invokevirtual 372, 3) := nq_d dX11_goBack_76_g (n := 34) rfl
theorem dX11_goBack_136 : decode cX11_goBack 136 = .ok (.iastore, 1) := nq_d dX11_goBack_76_g (n := 35) rfl
theorem dX11_goBack_137 : decode cX11_goBack 137 = .ok (.aload_n 0, 1) := nq_d dX11_goBack_76_g (n := 36) rfl
theorem dX11_goBack_138 : decode cX11_goBack 138 = .ok (.getfield 59, 3) := nq_d dX11_goBack_76_g (n := 37) rfl
theorem dX11_goBack_141 : decode cX11_goBack 141 = .ok (.iload_n 2, 1) := nq_d dX11_goBack_76_g (n := 38) rfl
theorem dX11_goBack_142 : decode cX11_goBack 142 = .ok (.aload_n 0, 1) := nq_d dX11_goBack_76_g (n := 39) rfl
noncomputable def dX11_goBack_143_l : List (Nat × Instr × Nat) := [(143, .invokevirtual 372, 3), (146, .iastore, 1), (147, .aload_n 0, 1), (148, .getfield 62, 3), (151, .iload_n 2, 1), (152, .aload_n 0, 1), (153, .invokevirtual 372, 3), (156, .iastore, 1), (157, .iinc 2 1, 3), (160, .goto (-79), 3), (163, .iconst 0, 1), (164, .istore_n 2, 1), (165, .iload_n 2, 1), (166, .bipush 24, 2), (168, .if_icmp .ge 19, 3), (171, .aload_n 0, 1), (172, .getfield 41, 3), (175, .iload_n 2, 1), (176, .aload_n 0, 1), (177, .invokevirtual 372, 3), (180, .iastore, 1), (181, .iinc 2 1, 3), (184, .goto (-19), 3), (187, .iconst 0, 1), (188, .istore_n 2, 1), (189, .iload_n 2, 1), (190, .sipush 420, 3), (193, .if_icmp .ge 19, 3), (196, .aload_n 0, 1), (197, .getfield 84, 3), (200, .iload_n 2, 1), (201, .aload_n 0, 1), (202, .invokevirtual 372, 3), (205, .iastore, 1), (206, .iinc 2 1, 3), (209, .goto (-20), 3), (212, .iconst 0, 1), (213, .istore_n 2, 1), (214, .iload_n 2, 1), (215, .bipush 6, 2)]
set_option maxRecDepth 100000 in
theorem dX11_goBack_143_g : dX11_goBack_143_l.all (fun x => decide (decode cX11_goBack x.1 = .ok x.2)) = true := by decide +kernel
theorem dX11_goBack_143 : decode cX11_goBack 143 = .ok (.invokevirtual 372, 3) := nq_d dX11_goBack_143_g (n := 0) rfl
theorem dX11_goBack_146 : decode cX11_goBack 146 = .ok (.iastore, 1) := nq_d dX11_goBack_143_g (n := 1) rfl
theorem dX11_goBack_147 : decode cX11_goBack 147 = .ok (.aload_n 0, 1) := nq_d dX11_goBack_143_g (n := 2) rfl
theorem dX11_goBack_148 : decode cX11_goBack 148 = .ok (.getfield 62, 3) := nq_d dX11_goBack_143_g (n := 3) rfl
theorem dX11_goBack_151 : decode cX11_goBack 151 = .ok (.iload_n 2, 1) := nq_d dX11_goBack_143_g (n := 4) rfl
theorem dX11_goBack_152 : decode cX11_goBack 152 = .ok (.aload_n 0, 1) := nq_d dX11_goBack_143_g (n := 5) rfl
theorem dX11_goBack_153 : decode cX11_goBack 153 = .ok (.invokevirtual 372, 3) := nq_d dX11_goBack_143_g (n := 6) rfl
theorem dX11_goBack_156 : decode cX11_goBack 156 = .ok (.iastore, 1) := nq_d dX11_goBack_143_g (n := 7) rfl
theorem dX11_goBack_157 : decode cX11_goBack 157 = .ok (.iinc 2 1, 3) := nq_d dX11_goBack_143_g (n := 8) rfl
theorem dX11_goBack_160 : decode cX11_goBack 160 = .ok (.goto (-79), 3) := nq_d dX11_goBack_143_g (n := 9) rfl
theorem dX11_goBack_163 : decode cX11_goBack 163 = .ok (.iconst 0, 1) := nq_d dX11_goBack_143_g (n := 10) rfl
theorem dX11_goBack_164 : decode cX11_goBack 164 = .ok (.istore_n 2, 1) := nq_d dX11_goBack_143_g (n := 11) rfl
theorem dX11_goBack_165 : decode cX11_goBack 165 = .ok (.iload_n 2, 1) := nq_d dX11_goBack_143_g (n := 12) rfl
theorem dX11_goBack_166 : decode cX11_goBack 166 = .ok (.bipush 24, 2) := nq_d dX11_goBack_143_g (n := 13) rfl
theorem dX11_goBack_168 : decode cX11_goBack 168 = .ok (.if_icmp .ge 19, 3) := nq_d dX11_goBack_143_g (n := 14) rfl
theorem dX11_goBack_171 : decode cX11_goBack 171 = .ok (.aload_n 0, 1) := nq_d dX11_goBack_143_g (n := 15) rfl
theorem dX11_goBack_172 : decode cX11_goBack 172 = .ok (.getfield 41, 3) := nq_d dX11_goBack_143_g (n := 16) rfl
theorem dX11_goBack_175 : decode cX11_goBack 175 = .ok (.iload_n 2, 1) := nq_d dX11_goBack_143_g (n := 17) rfl
theorem dX11_goBack_176 : decode cX11_goBack 176 = .ok (.aload_n 0, 1) := nq_d dX11_goBack_143_g (n := 18) rfl
theorem dX11_goBack_177 : decode cX11_goBack 177 = .ok (.invokevirtual 372, 3) := nq_d dX11_goBack_143_g (n := 19) rfl
theorem dX11_goBack_180 : decode cX11_goBack 180 = .ok (.iastore, 1) := nq_d dX11_goBack_143_g (n := 20) rfl
theorem dX11_goBack_181 : decode cX11_goBack 181 = .ok (.iinc 2 1, 3) := nq_d dX11_goBack_143_g (n := 21) rfl
theorem dX11_goBack_184 : decode cX11_goBack 184 = .ok (.goto (-19), 3) := nq_d dX11_goBack_143_g (n := 22) rfl
theorem dX11_goBack_187 : decode cX11_goBack 187 = .ok (.iconst 0, 1) := nq_d dX11_goBack_143_g (n := 23) rfl
theorem dX11_goBack_188 : decode cX11_goBack 188 = .ok (.istore_n 2, 1) := nq_d dX11_goBack_143_g (n := 24) rfl
theorem dX11_goBack_189 : decode cX11_goBack 189 = .ok (.iload_n 2, 1) := nq_d dX11_goBack_143_g (n := 25) rfl
theorem dX11_goBack_190 : decode cX11_goBack 190 = .ok (.sipush 420, 3) := nq_d dX11_goBack_143_g (n := 26) rfl
theorem dX11_goBack_193 : decode cX11_goBack 193 = .ok (.if_icmp .ge 19, 3) := nq_d dX11_goBack_143_g (n := 27) rfl
theorem dX11_goBack_196 : decode cX11_goBack 196 = .ok (.aload_n 0, 1) := nq_d dX11_goBack_143_g (n := 28) rfl
theorem dX11_goBack_197 : decode cX11_goBack 197 = .ok (.getfield 84, 3) := nq_d dX11_goBack_143_g (n := 29) rfl
theorem dX11_goBack_200 : decode cX11_goBack 200 = .ok (.iload_n 2, 1) := nq_d dX11_goBack_143_g (n := 30) rfl
theorem dX11_goBack_201 : decode cX11_goBack 201 = .ok (.aload_n 0, 1) := nq_d dX11_goBack_143_g (n := 31) rfl
theorem dX11_goBack_202 : decode cX11_goBack 202 = .ok (.invokevirtual 372, 3) := nq_d dX11_goBack_143_g (n := 32) rfl
theorem dX11_goBack_205 : decode cX11_goBack 205 = .ok (.iastore, 1) := nq_d dX11_goBack_143_g (n := 33) rfl
theorem dX11_goBack_206 : decode cX11_goBack 206 = .ok (.iinc 2 1, 3) := nq_d dX11_goBack_143_g (n := 34) rfl
theorem dX11_goBack_209 : decode cX11_goBack 209 = .ok (.goto (-20), 3) := nq_d dX11_goBack_143_g (n := 35) rfl
theorem dX11_goBack_212 : decode cX11_goBack 212 = .ok (.iconst 0, 1) := nq_d dX11_goBack_143_g (n := 36) rfl
theorem dX11_goBack_213 : decode cX11_goBack 213 = .ok (.istore_n 2, 1) := nq_d dX11_goBack_143_g (n := 37) rfl
theorem dX11_goBack_214 : decode cX11_goBack 214 = .ok (.iload_n 2, 1) := nq_d dX11_goBack_143_g (n := 38) rfl
theorem dX11_goBack_215 : decode cX11_goBack 215 = .ok (.bipush 6, 2) := nq_d dX11_goBack_143_g (n := 39) rfl
noncomputable def dX11_goBack_217_l : List (Nat × Instr × Nat) := [(217, .if_icmp .ge 39, 3), (220, .aload_n 0, 1), (221, .getfield 99, 3), (224, .iload_n 2, 1), (225, .aload_n 0, 1), (226, .invokevirtual 372, 3), (229, .iastore, 1), (230, .aload_n 0, 1), (231, .getfield 102, 3), (234, .iload_n 2, 1), (235, .aload_n 0, 1), (236, .invokevirtual 372, 3), (239, .iastore, 1), (240, .aload_n 0, 1), (241, .getfield 105, 3), (244, .iload_n 2, 1), (245, .aload_n 0, 1), (246, .invokevirtual 372, 3), (249, .iastore, 1), (250, .iinc 2 1, 3), (253, .goto (-39), 3), (256, .iconst 0, 1), (257, .istore_n 2, 1), (258, .iload_n 2, 1), (259, .bipush 60, 2), (261, .if_icmp .ge 69, 3), (264, .aload_n 0, 1), (265, .getfield 75, 3), (268, .iload_n 2, 1), (269, .aload_n 0, 1), (270, .invokevirtual 372, 3), (273, .iastore, 1), (274, .aload_n 0, 1), (275, .getfield 78, 3), (278, .iload_n 2, 1), (279, .aload_n 0, 1), (280, .invokevirtual 372, 3), (283, .iastore, 1), (284, .aload_n 0, 1), (285, .getfield 81, 3)]
set_option maxRecDepth 100000 in
theorem dX11_goBack_217_g : dX11_goBack_217_l.all (fun x => decide (decode cX11_goBack x.1 = .ok x.2)) = true := by decide +kernel
theorem dX11_goBack_217 : decode cX11_goBack 217 = .ok (.if_icmp .ge 39, 3) := nq_d dX11_goBack_217_g (n := 0) rfl
theorem dX11_goBack_220 : decode cX11_goBack 220 = .ok (.aload_n 0, 1) := nq_d dX11_goBack_217_g (n := 1) rfl
theorem dX11_goBack_221 : decode cX11_goBack 221 = .ok (.getfield 99, 3) := nq_d dX11_goBack_217_g (n := 2) rfl
theorem dX11_goBack_224 : decode cX11_goBack 224 = .ok (.iload_n 2, 1) := nq_d dX11_goBack_217_g (n := 3) rfl
theorem dX11_goBack_225 : decode cX11_goBack 225 = .ok (.aload_n 0, 1) := nq_d dX11_goBack_217_g (n := 4) rfl
theorem dX11_goBack_226 : decode cX11_goBack 226 = .ok (.invokevirtual 372, 3) := nq_d dX11_goBack_217_g (n := 5) rfl
theorem dX11_goBack_229 : decode cX11_goBack 229 = .ok (.iastore, 1) := nq_d dX11_goBack_217_g (n := 6) rfl
theorem dX11_goBack_230 : decode cX11_goBack 230 = .ok (.aload_n 0, 1) := nq_d dX11_goBack_217_g (n := 7) rfl
theorem dX11_goBack_231 : decode cX11_goBack 231 = .ok (.getfield 102, 3) := nq_d dX11_goBack_217_g (n := 8) rfl
theorem dX11_goBack_234 : decode cX11_goBack 234 = .ok (.iload_n 2, 1) := nq_d dX11_goBack_217_g (n := 9) rfl
theorem dX11_goBack_235 : decode cX11_goBack 235 = .ok (.aload_n 0, 1) := nq_d dX11_goBack_217_g (n := 10) rfl
theorem dX11_goBack_236 : decode cX11_goBack 236 = .ok (.invokevirtual 372, 3) := nq_d dX11_goBack_217_g (n := 11) rfl
theorem dX11_goBack_239 : decode cX11_goBack 239 = .ok (.iastore, 1) := nq_d dX11_goBack_217_g (n := 12) rfl
theorem dX11_goBack_240 : decode cX11_goBack 240 = .ok (.aload_n 0, 1) := nq_d dX11_goBack_217_g (n := 13) rfl
theorem dX11_goBack_241 : decode cX11_goBack 241 = .ok (.getfield 105, 3) := nq_d dX11_goBack_217_g (n := 14) rfl
theorem dX11_goBack_244 : decode cX11_goBack 244 = .ok (.iload_n 2, 1) := nq_d dX11_goBack_217_g (n := 15) rfl
theorem dX11_goBack_245 : decode cX11_goBack 245 = .ok (.aload_n 0, 1) := nq_d dX11_goBack_217_g (n := 16) rfl
theorem dX11_goBack_246 : decode cX11_goBack 246 = .ok (.invokevirtual 372, 3) := nq_d dX11_goBack_217_g (n := 17) rfl
theorem dX11_goBack_249 : decode cX11_goBack 249 = .ok (.iastore, 1) := nq_d dX11_goBack_217_g (n := 18) rfl
theorem dX11_goBack_250 : decode cX11_goBack 250 = .ok (.iinc 2 1, 3) := nq_d dX11_goBack_217_g (n := 19) rfl
theorem dX11_goBack_253 : decode cX11_goBack 253 = .ok (.goto (-39), 3) := nq_d dX11_goBack_217_g (n := 20) rfl
theorem dX11_goBack_256 : decode cX11_goBack 256 = .ok (.iconst 0, 1) := nq_d dX11_goBack_217_g (n := 21) rfl
theorem dX11_goBack_257 : decode cX11_goBack 257 = .ok (.istore_n 2, 1) := nq_d dX11_goBack_217_g (n := 22) rfl
theorem dX11_goBack_258 : decode cX11_goBack 258 = .ok (.iload_n 2, 1) := nq_d dX11_goBack_217_g (n := 23) rfl
theorem dX11_goBack_259 : decode cX11_goBack 259 = .ok (.bipush 60, 2) := nq_d dX11_goBack_217_g (n := 24) rfl
theorem dX11_goBack_261 : decode cX11_goBack 261 = .ok (.if_icmp .ge 69, 3) := nq_d dX11_goBack_217_g (n := 25) rfl
theorem dX11_goBack_264 : decode cX11_goBack 264 = .ok (.aload_n 0, 1) := nq_d dX11_goBack_217_g (n := 26) rfl
theorem dX11_goBack_265 : decode cX11_goBack 265 = .ok (.getfield 75, 3) := nq_d dX11_goBack_217_g (n := 27) rfl
theorem dX11_goBack_268 : decode cX11_goBack 268 = .ok (.iload_n 2, 1) := nq_d dX11_goBack_217_g (n := 28) rfl
theorem dX11_goBack_269 : decode cX11_goBack 269 = .ok (.aload_n 0, 1) := nq_d dX11_goBack_217_g (n := 29) rfl
theorem dX11_goBack_270 : decode cX11_goBack 270 = .ok (.invokevirtual 372, 3) := nq_d dX11_goBack_217_g (n := 30) rfl
theorem dX11_goBack_273 : decode cX11_goBack 273 = .ok (.iastore, 1) := nq_d dX11_goBack_217_g (n := 31) rfl
theorem dX11_goBack_274 : decode cX11_goBack 274 = .ok (.aload_n 0, 1) := nq_d dX11_goBack_217_g (n := 32) rfl
theorem dX11_goBack_275 : decode cX11_goBack 275 = .ok (.getfield 78, 3) := nq_d dX11_goBack_217_g (n := 33) rfl
theorem dX11_goBack_278 : decode cX11_goBack 278 = .ok (.iload_n 2, 1) := nq_d dX11_goBack_217_g (n := 34) rfl
theorem dX11_goBack_279 : decode cX11_goBack 279 = .ok (.aload_n 0, 1) := nq_d dX11_goBack_217_g (n := 35) rfl
theorem dX11_goBack_280 : decode cX11_goBack 280 = .ok (.invokevirtual 372, 3) := nq_d dX11_goBack_217_g (n := 36) rfl
theorem dX11_goBack_283 : decode cX11_goBack 283 = .ok (.iastore, 1) := nq_d dX11_goBack_217_g (n := 37) rfl
theorem dX11_goBack_284 : decode cX11_goBack 284 = .ok (.aload_n 0, 1) := nq_d dX11_goBack_217_g (n := 38) rfl
theorem dX11_goBack_285 : decode cX11_goBack 285 = .ok (.getfield 81, 3) := nq_d dX11_goBack_217_g (n := 39) rfl
noncomputable def dX11_goBack_288_l : List (Nat × Instr × Nat) := [(288, .iconst 3, 1), (289, .iload_n 2, 1), (290, .imul, 1), (291, .aload_n 0, 1), (292, .invokevirtual 372, 3), (295, .iastore, 1), (296, .aload_n 0, 1), (297, .getfield 81, 3), (300, .iconst 3, 1), (301, .iload_n 2, 1), (302, .imul, 1), (303, .iconst 1, 1), (304, .iadd, 1), (305, .aload_n 0, 1), (306, .invokevirtual 372, 3), (309, .iastore, 1), (310, .aload_n 0, 1), (311, .getfield 81, 3), (314, .iconst 3, 1), (315, .iload_n 2, 1), (316, .imul, 1), (317, .iconst 2, 1), (318, .iadd, 1), (319, .aload_n 0, 1), (320, .invokevirtual 372, 3), (323, .iastore, 1), (324, .iinc 2 1, 3), (327, .goto (-69), 3), (330, .iconst 1, 1), (331, .ireturn, 1)]
set_option maxRecDepth 100000 in
theorem dX11_goBack_288_g : dX11_goBack_288_l.all (fun x => decide (decode cX11_goBack x.1 = .ok x.2)) = true := by decide +kernel
theorem dX11_goBack_288 : decode cX11_goBack 288 = .ok (.iconst 3, 1) := nq_d dX11_goBack_288_g (n := 0) rfl
theorem dX11_goBack_289 : decode cX11_goBack 289 = .ok (.iload_n 2, 1) := nq_d dX11_goBack_288_g (n := 1) rfl
theorem dX11_goBack_290 : decode cX11_goBack 290 = .ok (.imul, 1) := nq_d dX11_goBack_288_g (n := 2) rfl
theorem dX11_goBack_291 : decode cX11_goBack 291 = .ok (.aload_n 0, 1) := nq_d dX11_goBack_288_g (n := 3) rfl
theorem dX11_goBack_292 : decode cX11_goBack 292 = .ok (.invokevirtual 372, 3) := nq_d dX11_goBack_288_g (n := 4) rfl
theorem dX11_goBack_295 : decode cX11_goBack 295 = .ok (.iastore, 1) := nq_d dX11_goBack_288_g (n := 5) rfl
theorem dX11_goBack_296 : decode cX11_goBack 296 = .ok (.aload_n 0, 1) := nq_d dX11_goBack_288_g (n := 6) rfl
theorem dX11_goBack_297 : decode cX11_goBack 297 = .ok (.getfield 81, 3) := nq_d dX11_goBack_288_g (n := 7) rfl
theorem dX11_goBack_300 : decode cX11_goBack 300 = .ok (.iconst 3, 1) := nq_d dX11_goBack_288_g (n := 8) rfl
theorem dX11_goBack_301 : decode cX11_goBack 301 = .ok (.iload_n 2, 1) := nq_d dX11_goBack_288_g (n := 9) rfl
theorem dX11_goBack_302 : decode cX11_goBack 302 = .ok (.imul, 1) := nq_d dX11_goBack_288_g (n := 10) rfl
theorem dX11_goBack_303 : decode cX11_goBack 303 = .ok (.iconst 1, 1) := nq_d dX11_goBack_288_g (n := 11) rfl
theorem dX11_goBack_304 : decode cX11_goBack 304 = .ok (.iadd, 1) := nq_d dX11_goBack_288_g (n := 12) rfl
theorem dX11_goBack_305 : decode cX11_goBack 305 = .ok (.aload_n 0, 1) := nq_d dX11_goBack_288_g (n := 13) rfl
theorem dX11_goBack_306 : decode cX11_goBack 306 = .ok (.invokevirtual 372, 3) := nq_d dX11_goBack_288_g (n := 14) rfl
theorem dX11_goBack_309 : decode cX11_goBack 309 = .ok (.iastore, 1) := nq_d dX11_goBack_288_g (n := 15) rfl
theorem dX11_goBack_310 : decode cX11_goBack 310 = .ok (.aload_n 0, 1) := nq_d dX11_goBack_288_g (n := 16) rfl
theorem dX11_goBack_311 : decode cX11_goBack 311 = .ok (.getfield 81, 3) := nq_d dX11_goBack_288_g (n := 17) rfl
theorem dX11_goBack_314 : decode cX11_goBack 314 = .ok (.iconst 3, 1) := nq_d dX11_goBack_288_g (n := 18) rfl
theorem dX11_goBack_315 : decode cX11_goBack 315 = .ok (.iload_n 2, 1) := nq_d dX11_goBack_288_g (n := 19) rfl
theorem dX11_goBack_316 : decode cX11_goBack 316 = .ok (.imul, 1) := nq_d dX11_goBack_288_g (n := 20) rfl
theorem dX11_goBack_317 : decode cX11_goBack 317 = .ok (.iconst 2, 1) := nq_d dX11_goBack_288_g (n := 21) rfl
theorem dX11_goBack_318 : decode cX11_goBack 318 = .ok (.iadd, 1) := nq_d dX11_goBack_288_g (n := 22) rfl
theorem dX11_goBack_319 : decode cX11_goBack 319 = .ok (.aload_n 0, 1) := nq_d dX11_goBack_288_g (n := 23) rfl
theorem dX11_goBack_320 : decode cX11_goBack 320 = .ok (.invokevirtual 372, 3) := nq_d dX11_goBack_288_g (n := 24) rfl
theorem dX11_goBack_323 : decode cX11_goBack 323 = .ok (.iastore, 1) := nq_d dX11_goBack_288_g (n := 25) rfl
theorem dX11_goBack_324 : decode cX11_goBack 324 = .ok (.iinc 2 1, 3) := nq_d dX11_goBack_288_g (n := 26) rfl
theorem dX11_goBack_327 : decode cX11_goBack 327 = .ok (.goto (-69), 3) := nq_d dX11_goBack_288_g (n := 27) rfl
theorem dX11_goBack_330 : decode cX11_goBack 330 = .ok (.iconst 1, 1) := nq_d dX11_goBack_288_g (n := 28) rfl
theorem dX11_goBack_331 : decode cX11_goBack 331 = .ok (.ireturn, 1) := nq_d dX11_goBack_288_g (n := 29) rfl
noncomputable def dJ6_bitCount_0f7a4_0_l : List (Nat × Instr × Nat) := [(0, .iload_n 0, 1), (1, .iload_n 0, 1), (2, .iconst 1, 1), (3, .iushr, 1), (4, .ldc_w 265, 3), (7, .iand, 1), (8, .isub, 1), (9, .istore_n 0, 1), (10, .iload_n 0, 1), (11, .ldc_w 266, 3), (14, .iand, 1), (15, .iload_n 0, 1), (16, .iconst 2, 1), (17, .iushr, 1), (18, .ldc_w 266, 3), (21, .iand, 1), (22, .iadd, 1), (23, .istore_n 0, 1), (24, .iload_n 0, 1), (25, .iload_n 0, 1), (26, .iconst 4, 1), (27, .iushr, 1), (28, .iadd, 1), (29, .ldc_w 267, 3), (32, .iand, 1), (33, .istore_n 0, 1), (34, .iload_n 0, 1), (35, .iload_n 0, 1), (36, .bipush 8, 2), (38, .iushr, 1), (39, .iadd, 1), (40, .istore_n 0, 1), (41, .iload_n 0, 1), (42, .iload_n 0, 1), (43, .bipush 16, 2), (45, .iushr, 1), (46, .iadd, 1), (47, .istore_n 0, 1), (48, .iload_n 0, 1), (49, .bipush 63, 2)]
set_option maxRecDepth 100000 in
theorem dJ6_bitCount_0f7a4_0_g : dJ6_bitCount_0f7a4_0_l.all (fun x => decide (decode cJ6_bitCount_0f7a4 x.1 = .ok x.2)) = true := by decide +kernel
theorem dJ6_bitCount_0f7a4_0 : decode cJ6_bitCount_0f7a4 0 = .ok (.iload_n 0, 1) := nq_d dJ6_bitCount_0f7a4_0_g (n := 0) rfl
theorem dJ6_bitCount_0f7a4_1 : decode cJ6_bitCount_0f7a4 1 = .ok (.iload_n 0, 1) := nq_d dJ6_bitCount_0f7a4_0_g (n := 1) rfl
theorem dJ6_bitCount_0f7a4_2 : decode cJ6_bitCount_0f7a4 2 = .ok (.iconst 1, 1) := nq_d dJ6_bitCount_0f7a4_0_g (n := 2) rfl
theorem dJ6_bitCount_0f7a4_3 : decode cJ6_bitCount_0f7a4 3 = .ok (.iushr, 1) := nq_d dJ6_bitCount_0f7a4_0_g (n := 3) rfl
theorem dJ6_bitCount_0f7a4_4 : decode cJ6_bitCount_0f7a4 4 = .ok (.ldc_w 265, 3) := nq_d dJ6_bitCount_0f7a4_0_g (n := 4) rfl
theorem dJ6_bitCount_0f7a4_7 : decode cJ6_bitCount_0f7a4 7 = .ok (.iand, 1) := nq_d dJ6_bitCount_0f7a4_0_g (n := 5) rfl
theorem dJ6_bitCount_0f7a4_8 : decode cJ6_bitCount_0f7a4 8 = .ok (.isub, 1) := nq_d dJ6_bitCount_0f7a4_0_g (n := 6) rfl
theorem dJ6_bitCount_0f7a4_9 : decode cJ6_bitCount_0f7a4 9 = .ok (.istore_n 0, 1) := nq_d dJ6_bitCount_0f7a4_0_g (n := 7) rfl
theorem dJ6_bitCount_0f7a4_10 : decode cJ6_bitCount_0f7a4 10 = .ok (.iload_n 0, 1) := nq_d dJ6_bitCount_0f7a4_0_g (n := 8) rfl
theorem dJ6_bitCount_0f7a4_11 : decode cJ6_bitCount_0f7a4 11 = .ok (.ldc_w 266, 3) := nq_d dJ6_bitCount_0f7a4_0_g (n := 9) rfl
theorem dJ6_bitCount_0f7a4_14 : decode cJ6_bitCount_0f7a4 14 = .ok (.iand, 1) := nq_d dJ6_bitCount_0f7a4_0_g (n := 10) rfl
theorem dJ6_bitCount_0f7a4_15 : decode cJ6_bitCount_0f7a4 15 = .ok (.iload_n 0, 1) := nq_d dJ6_bitCount_0f7a4_0_g (n := 11) rfl
theorem dJ6_bitCount_0f7a4_16 : decode cJ6_bitCount_0f7a4 16 = .ok (.iconst 2, 1) := nq_d dJ6_bitCount_0f7a4_0_g (n := 12) rfl
theorem dJ6_bitCount_0f7a4_17 : decode cJ6_bitCount_0f7a4 17 = .ok (.iushr, 1) := nq_d dJ6_bitCount_0f7a4_0_g (n := 13) rfl
theorem dJ6_bitCount_0f7a4_18 : decode cJ6_bitCount_0f7a4 18 = .ok (.ldc_w 266, 3) := nq_d dJ6_bitCount_0f7a4_0_g (n := 14) rfl
theorem dJ6_bitCount_0f7a4_21 : decode cJ6_bitCount_0f7a4 21 = .ok (.iand, 1) := nq_d dJ6_bitCount_0f7a4_0_g (n := 15) rfl
theorem dJ6_bitCount_0f7a4_22 : decode cJ6_bitCount_0f7a4 22 = .ok (.iadd, 1) := nq_d dJ6_bitCount_0f7a4_0_g (n := 16) rfl
theorem dJ6_bitCount_0f7a4_23 : decode cJ6_bitCount_0f7a4 23 = .ok (.istore_n 0, 1) := nq_d dJ6_bitCount_0f7a4_0_g (n := 17) rfl
theorem dJ6_bitCount_0f7a4_24 : decode cJ6_bitCount_0f7a4 24 = .ok (.iload_n 0, 1) := nq_d dJ6_bitCount_0f7a4_0_g (n := 18) rfl
theorem dJ6_bitCount_0f7a4_25 : decode cJ6_bitCount_0f7a4 25 = .ok (.iload_n 0, 1) := nq_d dJ6_bitCount_0f7a4_0_g (n := 19) rfl
theorem dJ6_bitCount_0f7a4_26 : decode cJ6_bitCount_0f7a4 26 = .ok (.iconst 4, 1) := nq_d dJ6_bitCount_0f7a4_0_g (n := 20) rfl
theorem dJ6_bitCount_0f7a4_27 : decode cJ6_bitCount_0f7a4 27 = .ok (.iushr, 1) := nq_d dJ6_bitCount_0f7a4_0_g (n := 21) rfl
theorem dJ6_bitCount_0f7a4_28 : decode cJ6_bitCount_0f7a4 28 = .ok (.iadd, 1) := nq_d dJ6_bitCount_0f7a4_0_g (n := 22) rfl
theorem dJ6_bitCount_0f7a4_29 : decode cJ6_bitCount_0f7a4 29 = .ok (.ldc_w 267, 3) := nq_d dJ6_bitCount_0f7a4_0_g (n := 23) rfl
theorem dJ6_bitCount_0f7a4_32 : decode cJ6_bitCount_0f7a4 32 = .ok (.iand, 1) := nq_d dJ6_bitCount_0f7a4_0_g (n := 24) rfl
theorem dJ6_bitCount_0f7a4_33 : decode cJ6_bitCount_0f7a4 33 = .ok (.istore_n 0, 1) := nq_d dJ6_bitCount_0f7a4_0_g (n := 25) rfl
theorem dJ6_bitCount_0f7a4_34 : decode cJ6_bitCount_0f7a4 34 = .ok (.iload_n 0, 1) := nq_d dJ6_bitCount_0f7a4_0_g (n := 26) rfl
theorem dJ6_bitCount_0f7a4_35 : decode cJ6_bitCount_0f7a4 35 = .ok (.iload_n 0, 1) := nq_d dJ6_bitCount_0f7a4_0_g (n := 27) rfl
theorem dJ6_bitCount_0f7a4_36 : decode cJ6_bitCount_0f7a4 36 = .ok (.bipush 8, 2) := nq_d dJ6_bitCount_0f7a4_0_g (n := 28) rfl
theorem dJ6_bitCount_0f7a4_38 : decode cJ6_bitCount_0f7a4 38 = .ok (.iushr, 1) := nq_d dJ6_bitCount_0f7a4_0_g (n := 29) rfl
theorem dJ6_bitCount_0f7a4_39 : decode cJ6_bitCount_0f7a4 39 = .ok (.iadd, 1) := nq_d dJ6_bitCount_0f7a4_0_g (n := 30) rfl
theorem dJ6_bitCount_0f7a4_40 : decode cJ6_bitCount_0f7a4 40 = .ok (.istore_n 0, 1) := nq_d dJ6_bitCount_0f7a4_0_g (n := 31) rfl
theorem dJ6_bitCount_0f7a4_41 : decode cJ6_bitCount_0f7a4 41 = .ok (.iload_n 0, 1) := nq_d dJ6_bitCount_0f7a4_0_g (n := 32) rfl
theorem dJ6_bitCount_0f7a4_42 : decode cJ6_bitCount_0f7a4 42 = .ok (.iload_n 0, 1) := nq_d dJ6_bitCount_0f7a4_0_g (n := 33) rfl
theorem dJ6_bitCount_0f7a4_43 : decode cJ6_bitCount_0f7a4 43 = .ok (.bipush 16, 2) := nq_d dJ6_bitCount_0f7a4_0_g (n := 34) rfl
theorem dJ6_bitCount_0f7a4_45 : decode cJ6_bitCount_0f7a4 45 = .ok (.iushr, 1) := nq_d dJ6_bitCount_0f7a4_0_g (n := 35) rfl
theorem dJ6_bitCount_0f7a4_46 : decode cJ6_bitCount_0f7a4 46 = .ok (.iadd, 1) := nq_d dJ6_bitCount_0f7a4_0_g (n := 36) rfl
theorem dJ6_bitCount_0f7a4_47 : decode cJ6_bitCount_0f7a4 47 = .ok (.istore_n 0, 1) := nq_d dJ6_bitCount_0f7a4_0_g (n := 37) rfl
theorem dJ6_bitCount_0f7a4_48 : decode cJ6_bitCount_0f7a4 48 = .ok (.iload_n 0, 1) := nq_d dJ6_bitCount_0f7a4_0_g (n := 38) rfl
theorem dJ6_bitCount_0f7a4_49 : decode cJ6_bitCount_0f7a4 49 = .ok (.bipush 63, 2) := nq_d dJ6_bitCount_0f7a4_0_g (n := 39) rfl
noncomputable def dJ6_bitCount_0f7a4_51_l : List (Nat × Instr × Nat) := [(51, .iand, 1), (52, .ireturn, 1)]
set_option maxRecDepth 100000 in
theorem dJ6_bitCount_0f7a4_51_g : dJ6_bitCount_0f7a4_51_l.all (fun x => decide (decode cJ6_bitCount_0f7a4 x.1 = .ok x.2)) = true := by decide +kernel
theorem dJ6_bitCount_0f7a4_51 : decode cJ6_bitCount_0f7a4 51 = .ok (.iand, 1) := nq_d dJ6_bitCount_0f7a4_51_g (n := 0) rfl
theorem dJ6_bitCount_0f7a4_52 : decode cJ6_bitCount_0f7a4 52 = .ok (.ireturn, 1) := nq_d dJ6_bitCount_0f7a4_51_g (n := 1) rfl
noncomputable def dJ9_max_7cf53_0_l : List (Nat × Instr × Nat) := [(0, .iload_n 0, 1), (1, .iload_n 1, 1), (2, .if_icmp .lt 7, 3), (5, .iload_n 0, 1), (6, .goto 4, 3), (9, .iload_n 1, 1), (10, .ireturn, 1)]
set_option maxRecDepth 100000 in
theorem dJ9_max_7cf53_0_g : dJ9_max_7cf53_0_l.all (fun x => decide (decode cJ9_max_7cf53 x.1 = .ok x.2)) = true := by decide +kernel
theorem dJ9_max_7cf53_0 : decode cJ9_max_7cf53 0 = .ok (.iload_n 0, 1) := nq_d dJ9_max_7cf53_0_g (n := 0) rfl
theorem dJ9_max_7cf53_1 : decode cJ9_max_7cf53 1 = .ok (.iload_n 1, 1) := nq_d dJ9_max_7cf53_0_g (n := 1) rfl
theorem dJ9_max_7cf53_2 : decode cJ9_max_7cf53 2 = .ok (.if_icmp .lt 7, 3) := nq_d dJ9_max_7cf53_0_g (n := 2) rfl
theorem dJ9_max_7cf53_5 : decode cJ9_max_7cf53 5 = .ok (.iload_n 0, 1) := nq_d dJ9_max_7cf53_0_g (n := 3) rfl
theorem dJ9_max_7cf53_6 : decode cJ9_max_7cf53 6 = .ok (.goto 4, 3) := nq_d dJ9_max_7cf53_0_g (n := 4) rfl
theorem dJ9_max_7cf53_9 : decode cJ9_max_7cf53 9 = .ok (.iload_n 1, 1) := nq_d dJ9_max_7cf53_0_g (n := 5) rfl
theorem dJ9_max_7cf53_10 : decode cJ9_max_7cf53 10 = .ok (.ireturn, 1) := nq_d dJ9_max_7cf53_0_g (n := 6) rfl
noncomputable def dJ9_min_7cf53_0_l : List (Nat × Instr × Nat) := [(0, .iload_n 0, 1), (1, .iload_n 1, 1), (2, .if_icmp .gt 7, 3), (5, .iload_n 0, 1), (6, .goto 4, 3), (9, .iload_n 1, 1), (10, .ireturn, 1)]
set_option maxRecDepth 100000 in
theorem dJ9_min_7cf53_0_g : dJ9_min_7cf53_0_l.all (fun x => decide (decode cJ9_min_7cf53 x.1 = .ok x.2)) = true := by decide +kernel
theorem dJ9_min_7cf53_0 : decode cJ9_min_7cf53 0 = .ok (.iload_n 0, 1) := nq_d dJ9_min_7cf53_0_g (n := 0) rfl
theorem dJ9_min_7cf53_1 : decode cJ9_min_7cf53 1 = .ok (.iload_n 1, 1) := nq_d dJ9_min_7cf53_0_g (n := 1) rfl
theorem dJ9_min_7cf53_2 : decode cJ9_min_7cf53 2 = .ok (.if_icmp .gt 7, 3) := nq_d dJ9_min_7cf53_0_g (n := 2) rfl
theorem dJ9_min_7cf53_5 : decode cJ9_min_7cf53 5 = .ok (.iload_n 0, 1) := nq_d dJ9_min_7cf53_0_g (n := 3) rfl
theorem dJ9_min_7cf53_6 : decode cJ9_min_7cf53 6 = .ok (.goto 4, 3) := nq_d dJ9_min_7cf53_0_g (n := 4) rfl
theorem dJ9_min_7cf53_9 : decode cJ9_min_7cf53 9 = .ok (.iload_n 1, 1) := nq_d dJ9_min_7cf53_0_g (n := 5) rfl
theorem dJ9_min_7cf53_10 : decode cJ9_min_7cf53 10 = .ok (.ireturn, 1) := nq_d dJ9_min_7cf53_0_g (n := 6) rfl
set_option maxRecDepth 100000 in
theorem ggJ0_length_8abf5_J0_coder_7d493 : GoodIn wsJ0_length_8abf5 wsJ0_coder_7d493 := goodIn_sub (sub_c (nq_m (n := 6) rfl) (sub_c (nq_m (n := 7) rfl) (sub_c (nq_m (n := 8) rfl) sub_n))) (by decide +kernel)
set_option maxRecDepth 100000 in
theorem gJ0_length_8abf5_J0_coder_7d493 : GoodIn wsJ0_length_8abf5 (wsV RJ0 335 RJ0 yJ0_coder_7d493 wsJ0_coder_7d493) := goodIn_app (goodIn_sub (sub_c (nq_m (n := 2) rfl) (sub_c (nq_m (n := 3) rfl) (sub_c (nq_m (n := 4) rfl) (sub_c (nq_m (n := 5) rfl) sub_n)))) (by decide +kernel)) ggJ0_length_8abf5_J0_coder_7d493
noncomputable def dJ0_length_8abf5_0_l : List (Nat × Instr × Nat) := [(0, .aload_n 0, 1), (1, .getfield 9, 3), (4, .arraylength, 1), (5, .aload_n 0, 1), (6, .invokevirtual 335, 3), (9, .ishr, 1), (10, .ireturn, 1)]
set_option maxRecDepth 100000 in
theorem dJ0_length_8abf5_0_g : dJ0_length_8abf5_0_l.all (fun x => decide (decode cJ0_length_8abf5 x.1 = .ok x.2)) = true := by decide +kernel
theorem dJ0_length_8abf5_0 : decode cJ0_length_8abf5 0 = .ok (.aload_n 0, 1) := nq_d dJ0_length_8abf5_0_g (n := 0) rfl
theorem dJ0_length_8abf5_1 : decode cJ0_length_8abf5 1 = .ok (.getfield 9, 3) := nq_d dJ0_length_8abf5_0_g (n := 1) rfl
theorem dJ0_length_8abf5_4 : decode cJ0_length_8abf5 4 = .ok (.arraylength, 1) := nq_d dJ0_length_8abf5_0_g (n := 2) rfl
theorem dJ0_length_8abf5_5 : decode cJ0_length_8abf5 5 = .ok (.aload_n 0, 1) := nq_d dJ0_length_8abf5_0_g (n := 3) rfl
theorem dJ0_length_8abf5_6 : decode cJ0_length_8abf5 6 = .ok (.invokevirtual 335, 3) := nq_d dJ0_length_8abf5_0_g (n := 4) rfl
theorem dJ0_length_8abf5_9 : decode cJ0_length_8abf5 9 = .ok (.ishr, 1) := nq_d dJ0_length_8abf5_0_g (n := 5) rfl
theorem dJ0_length_8abf5_10 : decode cJ0_length_8abf5 10 = .ok (.ireturn, 1) := nq_d dJ0_length_8abf5_0_g (n := 6) rfl
set_option maxRecDepth 100000 in
theorem ggJ0_charAt_5068e_J0_isLatin1_aae02 : GoodIn wsJ0_charAt_5068e wsJ0_isLatin1_aae02 := goodIn_sub (sub_c (nq_m (n := 6) rfl) (sub_c (nq_m (n := 7) rfl) (sub_c (nq_m (n := 8) rfl) sub_n))) (by decide +kernel)
set_option maxRecDepth 100000 in
theorem gJ0_charAt_5068e_J0_isLatin1_aae02 : GoodIn wsJ0_charAt_5068e (wsV RJ0 492 RJ0 yJ0_isLatin1_aae02 wsJ0_isLatin1_aae02) := goodIn_app (goodIn_sub (sub_c (nq_m (n := 2) rfl) (sub_c (nq_m (n := 3) rfl) (sub_c (nq_m (n := 4) rfl) (sub_c (nq_m (n := 5) rfl) sub_n)))) (by decide +kernel)) ggJ0_charAt_5068e_J0_isLatin1_aae02
set_option maxRecDepth 100000 in
theorem ggJ0_charAt_5068e_J1_charAt_3b067 : GoodIn wsJ0_charAt_5068e wsJ1_charAt_3b067 := goodIn_sub (sub_c (nq_m (n := 12) rfl) (sub_c (nq_m (n := 13) rfl) (sub_c (nq_m (n := 14) rfl) (sub_c (nq_m (n := 5) rfl) (sub_c (nq_m (n := 15) rfl) (sub_c (nq_m (n := 16) rfl) (sub_c (nq_m (n := 17) rfl) (sub_c (nq_m (n := 18) rfl) (sub_c (nq_m (n := 19) rfl) (sub_c (nq_m (n := 20) rfl) sub_n)))))))))) (by decide +kernel)
set_option maxRecDepth 100000 in
theorem gJ0_charAt_5068e_J1_charAt_3b067 : GoodIn wsJ0_charAt_5068e (va_wsS RJ0 495 yJ1_charAt_3b067 wsJ1_charAt_3b067) := goodIn_app (goodIn_sub (sub_c (nq_m (n := 9) rfl) (sub_c (nq_m (n := 10) rfl) (sub_c (nq_m (n := 11) rfl) sub_n))) (by decide +kernel)) ggJ0_charAt_5068e_J1_charAt_3b067
set_option maxRecDepth 100000 in
theorem ggJ0_charAt_5068e_J2_charAt_3b067 : GoodIn wsJ0_charAt_5068e wsJ2_charAt_3b067 := goodIn_sub (sub_c (nq_m (n := 24) rfl) (sub_c (nq_m (n := 25) rfl) (sub_c (nq_m (n := 26) rfl) (sub_c (nq_m (n := 23) rfl) (sub_c (nq_m (n := 27) rfl) (sub_c (nq_m (n := 28) rfl) (sub_c (nq_m (n := 29) rfl) (sub_c (nq_m (n := 30) rfl) (sub_c (nq_m (n := 31) rfl) (sub_c (nq_m (n := 14) rfl) (sub_c (nq_m (n := 5) rfl) (sub_c (nq_m (n := 15) rfl) (sub_c (nq_m (n := 16) rfl) (sub_c (nq_m (n := 17) rfl) (sub_c (nq_m (n := 18) rfl) (sub_c (nq_m (n := 19) rfl) (sub_c (nq_m (n := 20) rfl) (sub_c (nq_m (n := 32) rfl) (sub_c (nq_m (n := 33) rfl) (sub_c (nq_m (n := 34) rfl) (sub_c (nq_m (n := 35) rfl) (sub_c (nq_m (n := 36) rfl) (sub_c (nq_m (n := 37) rfl) sub_n))))))))))))))))))))))) (by decide +kernel)
set_option maxRecDepth 100000 in
theorem gJ0_charAt_5068e_J2_charAt_3b067 : GoodIn wsJ0_charAt_5068e (va_wsS RJ0 498 yJ2_charAt_3b067 wsJ2_charAt_3b067) := goodIn_app (goodIn_sub (sub_c (nq_m (n := 21) rfl) (sub_c (nq_m (n := 22) rfl) (sub_c (nq_m (n := 23) rfl) sub_n))) (by decide +kernel)) ggJ0_charAt_5068e_J2_charAt_3b067
noncomputable def dJ0_charAt_5068e_0_l : List (Nat × Instr × Nat) := [(0, .aload_n 0, 1), (1, .invokevirtual 492, 3), (4, .ifCond .eq 12, 3), (7, .aload_n 0, 1), (8, .getfield 9, 3), (11, .iload_n 1, 1), (12, .invokestatic 495, 3), (15, .ireturn, 1), (16, .aload_n 0, 1), (17, .getfield 9, 3), (20, .iload_n 1, 1), (21, .invokestatic 498, 3), (24, .ireturn, 1)]
set_option maxRecDepth 100000 in
theorem dJ0_charAt_5068e_0_g : dJ0_charAt_5068e_0_l.all (fun x => decide (decode cJ0_charAt_5068e x.1 = .ok x.2)) = true := by decide +kernel
theorem dJ0_charAt_5068e_0 : decode cJ0_charAt_5068e 0 = .ok (.aload_n 0, 1) := nq_d dJ0_charAt_5068e_0_g (n := 0) rfl
theorem dJ0_charAt_5068e_1 : decode cJ0_charAt_5068e 1 = .ok (.invokevirtual 492, 3) := nq_d dJ0_charAt_5068e_0_g (n := 1) rfl
theorem dJ0_charAt_5068e_4 : decode cJ0_charAt_5068e 4 = .ok (.ifCond .eq 12, 3) := nq_d dJ0_charAt_5068e_0_g (n := 2) rfl
theorem dJ0_charAt_5068e_7 : decode cJ0_charAt_5068e 7 = .ok (.aload_n 0, 1) := nq_d dJ0_charAt_5068e_0_g (n := 3) rfl
theorem dJ0_charAt_5068e_8 : decode cJ0_charAt_5068e 8 = .ok (.getfield 9, 3) := nq_d dJ0_charAt_5068e_0_g (n := 4) rfl
theorem dJ0_charAt_5068e_11 : decode cJ0_charAt_5068e 11 = .ok (.iload_n 1, 1) := nq_d dJ0_charAt_5068e_0_g (n := 5) rfl
theorem dJ0_charAt_5068e_12 : decode cJ0_charAt_5068e 12 = .ok (.invokestatic 495, 3) := nq_d dJ0_charAt_5068e_0_g (n := 6) rfl
theorem dJ0_charAt_5068e_15 : decode cJ0_charAt_5068e 15 = .ok (.ireturn, 1) := nq_d dJ0_charAt_5068e_0_g (n := 7) rfl
theorem dJ0_charAt_5068e_16 : decode cJ0_charAt_5068e 16 = .ok (.aload_n 0, 1) := nq_d dJ0_charAt_5068e_0_g (n := 8) rfl
theorem dJ0_charAt_5068e_17 : decode cJ0_charAt_5068e 17 = .ok (.getfield 9, 3) := nq_d dJ0_charAt_5068e_0_g (n := 9) rfl
theorem dJ0_charAt_5068e_20 : decode cJ0_charAt_5068e 20 = .ok (.iload_n 1, 1) := nq_d dJ0_charAt_5068e_0_g (n := 10) rfl
theorem dJ0_charAt_5068e_21 : decode cJ0_charAt_5068e 21 = .ok (.invokestatic 498, 3) := nq_d dJ0_charAt_5068e_0_g (n := 11) rfl
theorem dJ0_charAt_5068e_24 : decode cJ0_charAt_5068e 24 = .ok (.ireturn, 1) := nq_d dJ0_charAt_5068e_0_g (n := 12) rfl
noncomputable def dJ0_coder_7d493_0_l : List (Nat × Instr × Nat) := [(0, .getstatic 38, 3), (3, .ifCond .eq 10, 3), (6, .aload_n 0, 1), (7, .getfield 15, 3), (10, .goto 4, 3), (13, .iconst 1, 1), (14, .ireturn, 1)]
set_option maxRecDepth 100000 in
theorem dJ0_coder_7d493_0_g : dJ0_coder_7d493_0_l.all (fun x => decide (decode cJ0_coder_7d493 x.1 = .ok x.2)) = true := by decide +kernel
theorem dJ0_coder_7d493_0 : decode cJ0_coder_7d493 0 = .ok (.getstatic 38, 3) := nq_d dJ0_coder_7d493_0_g (n := 0) rfl
theorem dJ0_coder_7d493_3 : decode cJ0_coder_7d493 3 = .ok (.ifCond .eq 10, 3) := nq_d dJ0_coder_7d493_0_g (n := 1) rfl
theorem dJ0_coder_7d493_6 : decode cJ0_coder_7d493 6 = .ok (.aload_n 0, 1) := nq_d dJ0_coder_7d493_0_g (n := 2) rfl
theorem dJ0_coder_7d493_7 : decode cJ0_coder_7d493 7 = .ok (.getfield 15, 3) := nq_d dJ0_coder_7d493_0_g (n := 3) rfl
theorem dJ0_coder_7d493_10 : decode cJ0_coder_7d493 10 = .ok (.goto 4, 3) := nq_d dJ0_coder_7d493_0_g (n := 4) rfl
theorem dJ0_coder_7d493_13 : decode cJ0_coder_7d493 13 = .ok (.iconst 1, 1) := nq_d dJ0_coder_7d493_0_g (n := 5) rfl
theorem dJ0_coder_7d493_14 : decode cJ0_coder_7d493 14 = .ok (.ireturn, 1) := nq_d dJ0_coder_7d493_0_g (n := 6) rfl
noncomputable def dJ0_isLatin1_aae02_0_l : List (Nat × Instr × Nat) := [(0, .getstatic 38, 3), (3, .ifCond .eq 14, 3), (6, .aload_n 0, 1), (7, .getfield 15, 3), (10, .ifCond .ne 7, 3), (13, .iconst 1, 1), (14, .goto 4, 3), (17, .iconst 0, 1), (18, .ireturn, 1)]
set_option maxRecDepth 100000 in
theorem dJ0_isLatin1_aae02_0_g : dJ0_isLatin1_aae02_0_l.all (fun x => decide (decode cJ0_isLatin1_aae02 x.1 = .ok x.2)) = true := by decide +kernel
theorem dJ0_isLatin1_aae02_0 : decode cJ0_isLatin1_aae02 0 = .ok (.getstatic 38, 3) := nq_d dJ0_isLatin1_aae02_0_g (n := 0) rfl
theorem dJ0_isLatin1_aae02_3 : decode cJ0_isLatin1_aae02 3 = .ok (.ifCond .eq 14, 3) := nq_d dJ0_isLatin1_aae02_0_g (n := 1) rfl
theorem dJ0_isLatin1_aae02_6 : decode cJ0_isLatin1_aae02 6 = .ok (.aload_n 0, 1) := nq_d dJ0_isLatin1_aae02_0_g (n := 2) rfl
theorem dJ0_isLatin1_aae02_7 : decode cJ0_isLatin1_aae02 7 = .ok (.getfield 15, 3) := nq_d dJ0_isLatin1_aae02_0_g (n := 3) rfl
theorem dJ0_isLatin1_aae02_10 : decode cJ0_isLatin1_aae02 10 = .ok (.ifCond .ne 7, 3) := nq_d dJ0_isLatin1_aae02_0_g (n := 4) rfl
theorem dJ0_isLatin1_aae02_13 : decode cJ0_isLatin1_aae02 13 = .ok (.iconst 1, 1) := nq_d dJ0_isLatin1_aae02_0_g (n := 5) rfl
theorem dJ0_isLatin1_aae02_14 : decode cJ0_isLatin1_aae02 14 = .ok (.goto 4, 3) := nq_d dJ0_isLatin1_aae02_0_g (n := 6) rfl
theorem dJ0_isLatin1_aae02_17 : decode cJ0_isLatin1_aae02 17 = .ok (.iconst 0, 1) := nq_d dJ0_isLatin1_aae02_0_g (n := 7) rfl
theorem dJ0_isLatin1_aae02_18 : decode cJ0_isLatin1_aae02 18 = .ok (.ireturn, 1) := nq_d dJ0_isLatin1_aae02_0_g (n := 8) rfl
set_option maxRecDepth 100000 in
theorem ggJ0_checkIndex_df160_J3_checkIndex_8e157 : GoodIn wsJ0_checkIndex_df160 wsJ3_checkIndex_8e157 := goodIn_sub (sub_c (nq_m (n := 5) rfl) sub_n) (by decide +kernel)
set_option maxRecDepth 100000 in
theorem gJ0_checkIndex_df160_J3_checkIndex_8e157 : GoodIn wsJ0_checkIndex_df160 (va_wsS RJ0 1059 yJ3_checkIndex_8e157 wsJ3_checkIndex_8e157) := goodIn_app (goodIn_sub (sub_c (nq_m (n := 2) rfl) (sub_c (nq_m (n := 3) rfl) (sub_c (nq_m (n := 4) rfl) sub_n))) (by decide +kernel)) ggJ0_checkIndex_df160_J3_checkIndex_8e157
noncomputable def dJ0_checkIndex_df160_0_l : List (Nat × Instr × Nat) := [(0, .iload_n 0, 1), (1, .iload_n 1, 1), (2, .getstatic 1053, 3), (5, .invokestatic 1059, 3), (8, .pop, 1), (9, .return_, 1)]
set_option maxRecDepth 100000 in
theorem dJ0_checkIndex_df160_0_g : dJ0_checkIndex_df160_0_l.all (fun x => decide (decode cJ0_checkIndex_df160 x.1 = .ok x.2)) = true := by decide +kernel
theorem dJ0_checkIndex_df160_0 : decode cJ0_checkIndex_df160 0 = .ok (.iload_n 0, 1) := nq_d dJ0_checkIndex_df160_0_g (n := 0) rfl
theorem dJ0_checkIndex_df160_1 : decode cJ0_checkIndex_df160 1 = .ok (.iload_n 1, 1) := nq_d dJ0_checkIndex_df160_0_g (n := 1) rfl
theorem dJ0_checkIndex_df160_2 : decode cJ0_checkIndex_df160 2 = .ok (.getstatic 1053, 3) := nq_d dJ0_checkIndex_df160_0_g (n := 2) rfl
theorem dJ0_checkIndex_df160_5 : decode cJ0_checkIndex_df160 5 = .ok (.invokestatic 1059, 3) := nq_d dJ0_checkIndex_df160_0_g (n := 3) rfl
theorem dJ0_checkIndex_df160_8 : decode cJ0_checkIndex_df160 8 = .ok (.pop, 1) := nq_d dJ0_checkIndex_df160_0_g (n := 4) rfl
theorem dJ0_checkIndex_df160_9 : decode cJ0_checkIndex_df160 9 = .ok (.return_, 1) := nq_d dJ0_checkIndex_df160_0_g (n := 5) rfl
set_option maxRecDepth 100000 in
theorem ggJ1_charAt_3b067_J0_checkIndex_df160 : GoodIn wsJ1_charAt_3b067 wsJ0_checkIndex_df160 := goodIn_sub (sub_c (nq_m (n := 4) rfl) (sub_c (nq_m (n := 5) rfl) (sub_c (nq_m (n := 6) rfl) (sub_c (nq_m (n := 7) rfl) (sub_c (nq_m (n := 8) rfl) (sub_c (nq_m (n := 9) rfl) sub_n)))))) (by decide +kernel)
set_option maxRecDepth 100000 in
theorem gJ1_charAt_3b067_J0_checkIndex_df160 : GoodIn wsJ1_charAt_3b067 (va_wsS RJ1 9 yJ0_checkIndex_df160 wsJ0_checkIndex_df160) := goodIn_app (goodIn_sub (sub_c (nq_m (n := 1) rfl) (sub_c (nq_m (n := 2) rfl) (sub_c (nq_m (n := 3) rfl) sub_n))) (by decide +kernel)) ggJ1_charAt_3b067_J0_checkIndex_df160
noncomputable def dJ1_charAt_3b067_0_l : List (Nat × Instr × Nat) := [(0, .iload_n 1, 1), (1, .aload_n 0, 1), (2, .arraylength, 1), (3, .invokestatic 9, 3), (6, .aload_n 0, 1), (7, .iload_n 1, 1), (8, .baload, 1), (9, .sipush 255, 3), (12, .iand, 1), (13, .i2c, 1), (14, .ireturn, 1)]
set_option maxRecDepth 100000 in
theorem dJ1_charAt_3b067_0_g : dJ1_charAt_3b067_0_l.all (fun x => decide (decode cJ1_charAt_3b067 x.1 = .ok x.2)) = true := by decide +kernel
theorem dJ1_charAt_3b067_0 : decode cJ1_charAt_3b067 0 = .ok (.iload_n 1, 1) := nq_d dJ1_charAt_3b067_0_g (n := 0) rfl
theorem dJ1_charAt_3b067_1 : decode cJ1_charAt_3b067 1 = .ok (.aload_n 0, 1) := nq_d dJ1_charAt_3b067_0_g (n := 1) rfl
theorem dJ1_charAt_3b067_2 : decode cJ1_charAt_3b067 2 = .ok (.arraylength, 1) := nq_d dJ1_charAt_3b067_0_g (n := 2) rfl
theorem dJ1_charAt_3b067_3 : decode cJ1_charAt_3b067 3 = .ok (.invokestatic 9, 3) := nq_d dJ1_charAt_3b067_0_g (n := 3) rfl
theorem dJ1_charAt_3b067_6 : decode cJ1_charAt_3b067 6 = .ok (.aload_n 0, 1) := nq_d dJ1_charAt_3b067_0_g (n := 4) rfl
theorem dJ1_charAt_3b067_7 : decode cJ1_charAt_3b067 7 = .ok (.iload_n 1, 1) := nq_d dJ1_charAt_3b067_0_g (n := 5) rfl
theorem dJ1_charAt_3b067_8 : decode cJ1_charAt_3b067 8 = .ok (.baload, 1) := nq_d dJ1_charAt_3b067_0_g (n := 6) rfl
theorem dJ1_charAt_3b067_9 : decode cJ1_charAt_3b067 9 = .ok (.sipush 255, 3) := nq_d dJ1_charAt_3b067_0_g (n := 7) rfl
theorem dJ1_charAt_3b067_12 : decode cJ1_charAt_3b067 12 = .ok (.iand, 1) := nq_d dJ1_charAt_3b067_0_g (n := 8) rfl
theorem dJ1_charAt_3b067_13 : decode cJ1_charAt_3b067 13 = .ok (.i2c, 1) := nq_d dJ1_charAt_3b067_0_g (n := 9) rfl
theorem dJ1_charAt_3b067_14 : decode cJ1_charAt_3b067 14 = .ok (.ireturn, 1) := nq_d dJ1_charAt_3b067_0_g (n := 10) rfl
set_option maxRecDepth 100000 in
theorem ggJ2_getChar_3b067_J2_length_9d52b : GoodIn wsJ2_getChar_3b067 wsJ2_length_9d52b := goodIn_sub (sub_c (nq_m (n := 7) rfl) sub_n) (by decide +kernel)
set_option maxRecDepth 100000 in
theorem gJ2_getChar_3b067_J2_length_9d52b : GoodIn wsJ2_getChar_3b067 (va_wsS RJ2 48 yJ2_length_9d52b wsJ2_length_9d52b) := goodIn_app (goodIn_sub (sub_c (nq_m (n := 4) rfl) (sub_c (nq_m (n := 5) rfl) (sub_c (nq_m (n := 6) rfl) sub_n))) (by decide +kernel)) ggJ2_getChar_3b067_J2_length_9d52b
noncomputable def dJ2_getChar_3b067_0_l : List (Nat × Instr × Nat) := [(0, .getstatic 44, 3), (3, .ifCond .ne 25, 3), (6, .iload_n 1, 1), (7, .ifCond .lt 11, 3), (10, .iload_n 1, 1), (11, .aload_n 0, 1), (12, .invokestatic 48, 3), (15, .if_icmp .lt 13, 3), (18, .new 52, 3), (21, .dup, 1), (22, .ldc 54, 2), (24, .invokespecial 56, 3), (27, .athrow, 1), (28, .iload_n 1, 1), (29, .iconst 1, 1), (30, .ishl, 1), (31, .istore_n 1, 1), (32, .aload_n 0, 1), (33, .iload_n 1, 1), (34, .iinc 1 1, 3), (37, .baload, 1), (38, .sipush 255, 3), (41, .iand, 1), (42, .getstatic 59, 3), (45, .ishl, 1), (46, .aload_n 0, 1), (47, .iload_n 1, 1), (48, .baload, 1), (49, .sipush 255, 3), (52, .iand, 1), (53, .getstatic 63, 3), (56, .ishl, 1), (57, .ior, 1), (58, .i2c, 1), (59, .ireturn, 1)]
set_option maxRecDepth 100000 in
theorem dJ2_getChar_3b067_0_g : dJ2_getChar_3b067_0_l.all (fun x => decide (decode cJ2_getChar_3b067 x.1 = .ok x.2)) = true := by decide +kernel
theorem dJ2_getChar_3b067_0 : decode cJ2_getChar_3b067 0 = .ok (.getstatic 44, 3) := nq_d dJ2_getChar_3b067_0_g (n := 0) rfl
theorem dJ2_getChar_3b067_3 : decode cJ2_getChar_3b067 3 = .ok (.ifCond .ne 25, 3) := nq_d dJ2_getChar_3b067_0_g (n := 1) rfl
theorem dJ2_getChar_3b067_6 : decode cJ2_getChar_3b067 6 = .ok (.iload_n 1, 1) := nq_d dJ2_getChar_3b067_0_g (n := 2) rfl
theorem dJ2_getChar_3b067_7 : decode cJ2_getChar_3b067 7 = .ok (.ifCond .lt 11, 3) := nq_d dJ2_getChar_3b067_0_g (n := 3) rfl
theorem dJ2_getChar_3b067_10 : decode cJ2_getChar_3b067 10 = .ok (.iload_n 1, 1) := nq_d dJ2_getChar_3b067_0_g (n := 4) rfl
theorem dJ2_getChar_3b067_11 : decode cJ2_getChar_3b067 11 = .ok (.aload_n 0, 1) := nq_d dJ2_getChar_3b067_0_g (n := 5) rfl
theorem dJ2_getChar_3b067_12 : decode cJ2_getChar_3b067 12 = .ok (.invokestatic 48, 3) := nq_d dJ2_getChar_3b067_0_g (n := 6) rfl
theorem dJ2_getChar_3b067_15 : decode cJ2_getChar_3b067 15 = .ok (.if_icmp .lt 13, 3) := nq_d dJ2_getChar_3b067_0_g (n := 7) rfl
theorem dJ2_getChar_3b067_18 : decode cJ2_getChar_3b067 18 = .ok (.new 52, 3) := nq_d dJ2_getChar_3b067_0_g (n := 8) rfl
theorem dJ2_getChar_3b067_21 : decode cJ2_getChar_3b067 21 = .ok (.dup, 1) := nq_d dJ2_getChar_3b067_0_g (n := 9) rfl
theorem dJ2_getChar_3b067_22 : decode cJ2_getChar_3b067 22 = .ok (.ldc 54, 2) := nq_d dJ2_getChar_3b067_0_g (n := 10) rfl
theorem dJ2_getChar_3b067_24 : decode cJ2_getChar_3b067 24 = .ok (.invokespecial 56, 3) := nq_d dJ2_getChar_3b067_0_g (n := 11) rfl
theorem dJ2_getChar_3b067_27 : decode cJ2_getChar_3b067 27 = .ok (.athrow, 1) := nq_d dJ2_getChar_3b067_0_g (n := 12) rfl
theorem dJ2_getChar_3b067_28 : decode cJ2_getChar_3b067 28 = .ok (.iload_n 1, 1) := nq_d dJ2_getChar_3b067_0_g (n := 13) rfl
theorem dJ2_getChar_3b067_29 : decode cJ2_getChar_3b067 29 = .ok (.iconst 1, 1) := nq_d dJ2_getChar_3b067_0_g (n := 14) rfl
theorem dJ2_getChar_3b067_30 : decode cJ2_getChar_3b067 30 = .ok (.ishl, 1) := nq_d dJ2_getChar_3b067_0_g (n := 15) rfl
theorem dJ2_getChar_3b067_31 : decode cJ2_getChar_3b067 31 = .ok (.istore_n 1, 1) := nq_d dJ2_getChar_3b067_0_g (n := 16) rfl
theorem dJ2_getChar_3b067_32 : decode cJ2_getChar_3b067 32 = .ok (.aload_n 0, 1) := nq_d dJ2_getChar_3b067_0_g (n := 17) rfl
theorem dJ2_getChar_3b067_33 : decode cJ2_getChar_3b067 33 = .ok (.iload_n 1, 1) := nq_d dJ2_getChar_3b067_0_g (n := 18) rfl
theorem dJ2_getChar_3b067_34 : decode cJ2_getChar_3b067 34 = .ok (.iinc 1 1, 3) := nq_d dJ2_getChar_3b067_0_g (n := 19) rfl
theorem dJ2_getChar_3b067_37 : decode cJ2_getChar_3b067 37 = .ok (.baload, 1) := nq_d dJ2_getChar_3b067_0_g (n := 20) rfl
theorem dJ2_getChar_3b067_38 : decode cJ2_getChar_3b067 38 = .ok (.sipush 255, 3) := nq_d dJ2_getChar_3b067_0_g (n := 21) rfl
theorem dJ2_getChar_3b067_41 : decode cJ2_getChar_3b067 41 = .ok (.iand, 1) := nq_d dJ2_getChar_3b067_0_g (n := 22) rfl
theorem dJ2_getChar_3b067_42 : decode cJ2_getChar_3b067 42 = .ok (.getstatic 59, 3) := nq_d dJ2_getChar_3b067_0_g (n := 23) rfl
theorem dJ2_getChar_3b067_45 : decode cJ2_getChar_3b067 45 = .ok (.ishl, 1) := nq_d dJ2_getChar_3b067_0_g (n := 24) rfl
theorem dJ2_getChar_3b067_46 : decode cJ2_getChar_3b067 46 = .ok (.aload_n 0, 1) := nq_d dJ2_getChar_3b067_0_g (n := 25) rfl
theorem dJ2_getChar_3b067_47 : decode cJ2_getChar_3b067 47 = .ok (.iload_n 1, 1) := nq_d dJ2_getChar_3b067_0_g (n := 26) rfl
theorem dJ2_getChar_3b067_48 : decode cJ2_getChar_3b067 48 = .ok (.baload, 1) := nq_d dJ2_getChar_3b067_0_g (n := 27) rfl
theorem dJ2_getChar_3b067_49 : decode cJ2_getChar_3b067 49 = .ok (.sipush 255, 3) := nq_d dJ2_getChar_3b067_0_g (n := 28) rfl
theorem dJ2_getChar_3b067_52 : decode cJ2_getChar_3b067 52 = .ok (.iand, 1) := nq_d dJ2_getChar_3b067_0_g (n := 29) rfl
theorem dJ2_getChar_3b067_53 : decode cJ2_getChar_3b067 53 = .ok (.getstatic 63, 3) := nq_d dJ2_getChar_3b067_0_g (n := 30) rfl
theorem dJ2_getChar_3b067_56 : decode cJ2_getChar_3b067 56 = .ok (.ishl, 1) := nq_d dJ2_getChar_3b067_0_g (n := 31) rfl
theorem dJ2_getChar_3b067_57 : decode cJ2_getChar_3b067 57 = .ok (.ior, 1) := nq_d dJ2_getChar_3b067_0_g (n := 32) rfl
theorem dJ2_getChar_3b067_58 : decode cJ2_getChar_3b067 58 = .ok (.i2c, 1) := nq_d dJ2_getChar_3b067_0_g (n := 33) rfl
theorem dJ2_getChar_3b067_59 : decode cJ2_getChar_3b067 59 = .ok (.ireturn, 1) := nq_d dJ2_getChar_3b067_0_g (n := 34) rfl
noncomputable def dJ2_length_9d52b_0_l : List (Nat × Instr × Nat) := [(0, .aload_n 0, 1), (1, .arraylength, 1), (2, .iconst 1, 1), (3, .ishr, 1), (4, .ireturn, 1)]
set_option maxRecDepth 100000 in
theorem dJ2_length_9d52b_0_g : dJ2_length_9d52b_0_l.all (fun x => decide (decode cJ2_length_9d52b x.1 = .ok x.2)) = true := by decide +kernel
theorem dJ2_length_9d52b_0 : decode cJ2_length_9d52b 0 = .ok (.aload_n 0, 1) := nq_d dJ2_length_9d52b_0_g (n := 0) rfl
theorem dJ2_length_9d52b_1 : decode cJ2_length_9d52b 1 = .ok (.arraylength, 1) := nq_d dJ2_length_9d52b_0_g (n := 1) rfl
theorem dJ2_length_9d52b_2 : decode cJ2_length_9d52b 2 = .ok (.iconst 1, 1) := nq_d dJ2_length_9d52b_0_g (n := 2) rfl
theorem dJ2_length_9d52b_3 : decode cJ2_length_9d52b 3 = .ok (.ishr, 1) := nq_d dJ2_length_9d52b_0_g (n := 3) rfl
theorem dJ2_length_9d52b_4 : decode cJ2_length_9d52b 4 = .ok (.ireturn, 1) := nq_d dJ2_length_9d52b_0_g (n := 4) rfl
set_option maxRecDepth 100000 in
theorem ggJ2_charAt_3b067_J2_checkIndex_2214a : GoodIn wsJ2_charAt_3b067 wsJ2_checkIndex_2214a := goodIn_sub (sub_c (nq_m (n := 4) rfl) (sub_c (nq_m (n := 5) rfl) (sub_c (nq_m (n := 6) rfl) (sub_c (nq_m (n := 3) rfl) (sub_c (nq_m (n := 7) rfl) (sub_c (nq_m (n := 8) rfl) (sub_c (nq_m (n := 9) rfl) (sub_c (nq_m (n := 10) rfl) (sub_c (nq_m (n := 11) rfl) (sub_c (nq_m (n := 12) rfl) (sub_c (nq_m (n := 13) rfl) (sub_c (nq_m (n := 14) rfl) (sub_c (nq_m (n := 15) rfl) (sub_c (nq_m (n := 16) rfl) sub_n)))))))))))))) (by decide +kernel)
set_option maxRecDepth 100000 in
theorem gJ2_charAt_3b067_J2_checkIndex_2214a : GoodIn wsJ2_charAt_3b067 (va_wsS RJ2 67 yJ2_checkIndex_2214a wsJ2_checkIndex_2214a) := goodIn_app (goodIn_sub (sub_c (nq_m (n := 1) rfl) (sub_c (nq_m (n := 2) rfl) (sub_c (nq_m (n := 3) rfl) sub_n))) (by decide +kernel)) ggJ2_charAt_3b067_J2_checkIndex_2214a
set_option maxRecDepth 100000 in
theorem ggJ2_charAt_3b067_J2_getChar_3b067 : GoodIn wsJ2_charAt_3b067 wsJ2_getChar_3b067 := goodIn_sub (sub_c (nq_m (n := 19) rfl) (sub_c (nq_m (n := 20) rfl) (sub_c (nq_m (n := 21) rfl) (sub_c (nq_m (n := 22) rfl) (sub_c (nq_m (n := 5) rfl) (sub_c (nq_m (n := 6) rfl) (sub_c (nq_m (n := 3) rfl) (sub_c (nq_m (n := 7) rfl) sub_n)))))))) (by decide +kernel)
set_option maxRecDepth 100000 in
theorem gJ2_charAt_3b067_J2_getChar_3b067 : GoodIn wsJ2_charAt_3b067 (va_wsS RJ2 71 yJ2_getChar_3b067 wsJ2_getChar_3b067) := goodIn_app (goodIn_sub (sub_c (nq_m (n := 17) rfl) (sub_c (nq_m (n := 18) rfl) (sub_c (nq_m (n := 3) rfl) sub_n))) (by decide +kernel)) ggJ2_charAt_3b067_J2_getChar_3b067
noncomputable def dJ2_charAt_3b067_0_l : List (Nat × Instr × Nat) := [(0, .iload_n 1, 1), (1, .aload_n 0, 1), (2, .invokestatic 67, 3), (5, .aload_n 0, 1), (6, .iload_n 1, 1), (7, .invokestatic 71, 3), (10, .ireturn, 1)]
set_option maxRecDepth 100000 in
theorem dJ2_charAt_3b067_0_g : dJ2_charAt_3b067_0_l.all (fun x => decide (decode cJ2_charAt_3b067 x.1 = .ok x.2)) = true := by decide +kernel
theorem dJ2_charAt_3b067_0 : decode cJ2_charAt_3b067 0 = .ok (.iload_n 1, 1) := nq_d dJ2_charAt_3b067_0_g (n := 0) rfl
theorem dJ2_charAt_3b067_1 : decode cJ2_charAt_3b067 1 = .ok (.aload_n 0, 1) := nq_d dJ2_charAt_3b067_0_g (n := 1) rfl
theorem dJ2_charAt_3b067_2 : decode cJ2_charAt_3b067 2 = .ok (.invokestatic 67, 3) := nq_d dJ2_charAt_3b067_0_g (n := 2) rfl
theorem dJ2_charAt_3b067_5 : decode cJ2_charAt_3b067 5 = .ok (.aload_n 0, 1) := nq_d dJ2_charAt_3b067_0_g (n := 3) rfl
theorem dJ2_charAt_3b067_6 : decode cJ2_charAt_3b067 6 = .ok (.iload_n 1, 1) := nq_d dJ2_charAt_3b067_0_g (n := 4) rfl
theorem dJ2_charAt_3b067_7 : decode cJ2_charAt_3b067 7 = .ok (.invokestatic 71, 3) := nq_d dJ2_charAt_3b067_0_g (n := 5) rfl
theorem dJ2_charAt_3b067_10 : decode cJ2_charAt_3b067 10 = .ok (.ireturn, 1) := nq_d dJ2_charAt_3b067_0_g (n := 6) rfl
set_option maxRecDepth 100000 in
theorem ggJ2_checkIndex_2214a_J2_length_9d52b : GoodIn wsJ2_checkIndex_2214a wsJ2_length_9d52b := goodIn_sub (sub_c (nq_m (n := 4) rfl) sub_n) (by decide +kernel)
set_option maxRecDepth 100000 in
theorem gJ2_checkIndex_2214a_J2_length_9d52b : GoodIn wsJ2_checkIndex_2214a (va_wsS RJ2 48 yJ2_length_9d52b wsJ2_length_9d52b) := goodIn_app (goodIn_sub (sub_c (nq_m (n := 1) rfl) (sub_c (nq_m (n := 2) rfl) (sub_c (nq_m (n := 3) rfl) sub_n))) (by decide +kernel)) ggJ2_checkIndex_2214a_J2_length_9d52b
set_option maxRecDepth 100000 in
theorem ggJ2_checkIndex_2214a_J0_checkIndex_df160 : GoodIn wsJ2_checkIndex_2214a wsJ0_checkIndex_df160 := goodIn_sub (sub_c (nq_m (n := 8) rfl) (sub_c (nq_m (n := 9) rfl) (sub_c (nq_m (n := 10) rfl) (sub_c (nq_m (n := 11) rfl) (sub_c (nq_m (n := 12) rfl) (sub_c (nq_m (n := 13) rfl) sub_n)))))) (by decide +kernel)
set_option maxRecDepth 100000 in
theorem gJ2_checkIndex_2214a_J0_checkIndex_df160 : GoodIn wsJ2_checkIndex_2214a (va_wsS RJ2 414 yJ0_checkIndex_df160 wsJ0_checkIndex_df160) := goodIn_app (goodIn_sub (sub_c (nq_m (n := 5) rfl) (sub_c (nq_m (n := 6) rfl) (sub_c (nq_m (n := 7) rfl) sub_n))) (by decide +kernel)) ggJ2_checkIndex_2214a_J0_checkIndex_df160
noncomputable def dJ2_checkIndex_2214a_0_l : List (Nat × Instr × Nat) := [(0, .iload_n 0, 1), (1, .aload_n 1, 1), (2, .invokestatic 48, 3), (5, .invokestatic 414, 3), (8, .return_, 1)]
set_option maxRecDepth 100000 in
theorem dJ2_checkIndex_2214a_0_g : dJ2_checkIndex_2214a_0_l.all (fun x => decide (decode cJ2_checkIndex_2214a x.1 = .ok x.2)) = true := by decide +kernel
theorem dJ2_checkIndex_2214a_0 : decode cJ2_checkIndex_2214a 0 = .ok (.iload_n 0, 1) := nq_d dJ2_checkIndex_2214a_0_g (n := 0) rfl
theorem dJ2_checkIndex_2214a_1 : decode cJ2_checkIndex_2214a 1 = .ok (.aload_n 1, 1) := nq_d dJ2_checkIndex_2214a_0_g (n := 1) rfl
theorem dJ2_checkIndex_2214a_2 : decode cJ2_checkIndex_2214a 2 = .ok (.invokestatic 48, 3) := nq_d dJ2_checkIndex_2214a_0_g (n := 2) rfl
theorem dJ2_checkIndex_2214a_5 : decode cJ2_checkIndex_2214a 5 = .ok (.invokestatic 414, 3) := nq_d dJ2_checkIndex_2214a_0_g (n := 3) rfl
theorem dJ2_checkIndex_2214a_8 : decode cJ2_checkIndex_2214a 8 = .ok (.return_, 1) := nq_d dJ2_checkIndex_2214a_0_g (n := 4) rfl
noncomputable def dJ3_checkIndex_8e157_0_l : List (Nat × Instr × Nat) := [(0, .iload_n 0, 1), (1, .ifCond .lt 8, 3), (4, .iload_n 0, 1), (5, .iload_n 1, 1), (6, .if_icmp .lt 10, 3), (9, .aload_n 2, 1), (10, .iload_n 0, 1), (11, .iload_n 1, 1), (12, .invokestatic 95, 3), (15, .athrow, 1), (16, .iload_n 0, 1), (17, .ireturn, 1)]
set_option maxRecDepth 100000 in
theorem dJ3_checkIndex_8e157_0_g : dJ3_checkIndex_8e157_0_l.all (fun x => decide (decode cJ3_checkIndex_8e157 x.1 = .ok x.2)) = true := by decide +kernel
theorem dJ3_checkIndex_8e157_0 : decode cJ3_checkIndex_8e157 0 = .ok (.iload_n 0, 1) := nq_d dJ3_checkIndex_8e157_0_g (n := 0) rfl
theorem dJ3_checkIndex_8e157_1 : decode cJ3_checkIndex_8e157 1 = .ok (.ifCond .lt 8, 3) := nq_d dJ3_checkIndex_8e157_0_g (n := 1) rfl
theorem dJ3_checkIndex_8e157_4 : decode cJ3_checkIndex_8e157 4 = .ok (.iload_n 0, 1) := nq_d dJ3_checkIndex_8e157_0_g (n := 2) rfl
theorem dJ3_checkIndex_8e157_5 : decode cJ3_checkIndex_8e157 5 = .ok (.iload_n 1, 1) := nq_d dJ3_checkIndex_8e157_0_g (n := 3) rfl
theorem dJ3_checkIndex_8e157_6 : decode cJ3_checkIndex_8e157 6 = .ok (.if_icmp .lt 10, 3) := nq_d dJ3_checkIndex_8e157_0_g (n := 4) rfl
theorem dJ3_checkIndex_8e157_9 : decode cJ3_checkIndex_8e157 9 = .ok (.aload_n 2, 1) := nq_d dJ3_checkIndex_8e157_0_g (n := 5) rfl
theorem dJ3_checkIndex_8e157_10 : decode cJ3_checkIndex_8e157 10 = .ok (.iload_n 0, 1) := nq_d dJ3_checkIndex_8e157_0_g (n := 6) rfl
theorem dJ3_checkIndex_8e157_11 : decode cJ3_checkIndex_8e157 11 = .ok (.iload_n 1, 1) := nq_d dJ3_checkIndex_8e157_0_g (n := 7) rfl
theorem dJ3_checkIndex_8e157_12 : decode cJ3_checkIndex_8e157 12 = .ok (.invokestatic 95, 3) := nq_d dJ3_checkIndex_8e157_0_g (n := 8) rfl
theorem dJ3_checkIndex_8e157_15 : decode cJ3_checkIndex_8e157 15 = .ok (.athrow, 1) := nq_d dJ3_checkIndex_8e157_0_g (n := 9) rfl
theorem dJ3_checkIndex_8e157_16 : decode cJ3_checkIndex_8e157 16 = .ok (.iload_n 0, 1) := nq_d dJ3_checkIndex_8e157_0_g (n := 10) rfl
theorem dJ3_checkIndex_8e157_17 : decode cJ3_checkIndex_8e157 17 = .ok (.ireturn, 1) := nq_d dJ3_checkIndex_8e157_0_g (n := 11) rfl
