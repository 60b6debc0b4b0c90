theorem dX10_goBack_34 : decode cX10_goBack 34 = .ok (.ireturn, 1) := nq_d dX10_goBack_0_g (n := 18) rfl
noncomputable def dX10_within_0_l : List (Nat × Instr × Nat) := [(0, .iload_n 0, 1), (1, .iload_n 1, 1), (2, .if_icmp .lt 12, 3), (5, .iload_n 0, 1), (6, .iload_n 2, 1), (7, .if_icmp .gt 7, 3), (10, .iconst 1, 1), (11, .goto 4, 3), (14, .iconst 0, 1), (15, .ireturn, 1)]
set_option maxRecDepth 100000 in
theorem dX10_within_0_g : dX10_within_0_l.all (fun x => decide (decode cX10_within x.1 = .ok x.2)) = true := by decide +kernel
theorem dX10_within_0 : decode cX10_within 0 = .ok (.iload_n 0, 1) := nq_d dX10_within_0_g (n := 0) rfl
theorem dX10_within_1 : decode cX10_within 1 = .ok (.iload_n 1, 1) := nq_d dX10_within_0_g (n := 1) rfl
theorem dX10_within_2 : decode cX10_within 2 = .ok (.if_icmp .lt 12, 3) := nq_d dX10_within_0_g (n := 2) rfl
theorem dX10_within_5 : decode cX10_within 5 = .ok (.iload_n 0, 1) := nq_d dX10_within_0_g (n := 3) rfl
theorem dX10_within_6 : decode cX10_within 6 = .ok (.iload_n 2, 1) := nq_d dX10_within_0_g (n := 4) rfl
theorem dX10_within_7 : decode cX10_within 7 = .ok (.if_icmp .gt 7, 3) := nq_d dX10_within_0_g (n := 5) rfl
theorem dX10_within_10 : decode cX10_within 10 = .ok (.iconst 1, 1) := nq_d dX10_within_0_g (n := 6) rfl
theorem dX10_within_11 : decode cX10_within 11 = .ok (.goto 4, 3) := nq_d dX10_within_0_g (n := 7) rfl
theorem dX10_within_14 : decode cX10_within 14 = .ok (.iconst 0, 1) := nq_d dX10_within_0_g (n := 8) rfl
theorem dX10_within_15 : decode cX10_within 15 = .ok (.ireturn, 1) := nq_d dX10_within_0_g (n := 9) rfl
set_option maxRecDepth 100000 in
theorem ggX10_isHand_X10_within : GoodIn wsX10_isHand wsX10_within := goodIn_sub (sub_c (nq_m (n := 4) rfl) sub_n) (by decide +kernel)
set_option maxRecDepth 100000 in
theorem gX10_isHand_X10_within : GoodIn wsX10_isHand (va_wsS RX10 67 yX10_within wsX10_within) := goodIn_app (goodIn_sub (sub_c (nq_m (n := 1) rfl) (sub_c (nq_m (n := 2) rfl) (sub_c (nq_m (n := 3) rfl) sub_n))) (by decide +kernel)) ggX10_isHand_X10_within
noncomputable def dX10_isHand_0_l : List (Nat × Instr × Nat) := [(0, .iload_n 0, 1), (1, .iconst 0, 1), (2, .iconst 3, 1), (3, .invokestatic 67, 3), (6, .ireturn, 1)]
set_option maxRecDepth 100000 in
theorem dX10_isHand_0_g : dX10_isHand_0_l.all (fun x => decide (decode cX10_isHand x.1 = .ok x.2)) = true := by decide +kernel
theorem dX10_isHand_0 : decode cX10_isHand 0 = .ok (.iload_n 0, 1) := nq_d dX10_isHand_0_g (n := 0) rfl
theorem dX10_isHand_1 : decode cX10_isHand 1 = .ok (.iconst 0, 1) := nq_d dX10_isHand_0_g (n := 1) rfl
theorem dX10_isHand_2 : decode cX10_isHand 2 = .ok (.iconst 3, 1) := nq_d dX10_isHand_0_g (n := 2) rfl
theorem dX10_isHand_3 : decode cX10_isHand 3 = .ok (.invokestatic 67, 3) := nq_d dX10_isHand_0_g (n := 3) rfl
theorem dX10_isHand_6 : decode cX10_isHand 6 = .ok (.ireturn, 1) := nq_d dX10_isHand_0_g (n := 4) rfl
set_option maxRecDepth 100000 in
theorem ggX10_imageOf_X10_within : GoodIn wsX10_imageOf wsX10_within := goodIn_sub (sub_c (nq_m (n := 6) rfl) sub_n) (by decide +kernel)
set_option maxRecDepth 100000 in
theorem gX10_imageOf_X10_within : GoodIn wsX10_imageOf (va_wsS RX10 67 yX10_within wsX10_within) := goodIn_app (goodIn_sub (sub_c (nq_m (n := 3) rfl) (sub_c (nq_m (n := 4) rfl) (sub_c (nq_m (n := 5) rfl) sub_n))) (by decide +kernel)) ggX10_imageOf_X10_within
noncomputable def dX10_imageOf_0_l : List (Nat × Instr × Nat) := [(0, .iload_n 1, 1), (1, .iconst 0, 1), (2, .iconst 1, 1), (3, .invokestatic 67, 3), (6, .ifCond .ne 5, 3), (9, .aconst_null, 1), (10, .areturn, 1), (11, .iload_n 1, 1), (12, .ifCond .ne 10, 3), (15, .aload_n 0, 1), (16, .getfield 30, 3), (19, .goto 7, 3), (22, .aload_n 0, 1), (23, .getfield 33, 3), (26, .areturn, 1)]
set_option maxRecDepth 100000 in
theorem dX10_imageOf_0_g : dX10_imageOf_0_l.all (fun x => decide (decode cX10_imageOf x.1 = .ok x.2)) = true := by decide +kernel
theorem dX10_imageOf_0 : decode cX10_imageOf 0 = .ok (.iload_n 1, 1) := nq_d dX10_imageOf_0_g (n := 0) rfl
theorem dX10_imageOf_1 : decode cX10_imageOf 1 = .ok (.iconst 0, 1) := nq_d dX10_imageOf_0_g (n := 1) rfl
theorem dX10_imageOf_2 : decode cX10_imageOf 2 = .ok (.iconst 1, 1) := nq_d dX10_imageOf_0_g (n := 2) rfl
theorem dX10_imageOf_3 : decode cX10_imageOf 3 = .ok (.invokestatic 67, 3) := nq_d dX10_imageOf_0_g (n := 3) rfl
theorem dX10_imageOf_6 : decode cX10_imageOf 6 = .ok (.ifCond .ne 5, 3) := nq_d dX10_imageOf_0_g (n := 4) rfl
theorem dX10_imageOf_9 : decode cX10_imageOf 9 = .ok (.aconst_null, 1) := nq_d dX10_imageOf_0_g (n := 5) rfl
theorem dX10_imageOf_10 : decode cX10_imageOf 10 = .ok (.areturn, 1) := nq_d dX10_imageOf_0_g (n := 6) rfl
theorem dX10_imageOf_11 : decode cX10_imageOf 11 = .ok (.iload_n 1, 1) := nq_d dX10_imageOf_0_g (n := 7) rfl
theorem dX10_imageOf_12 : decode cX10_imageOf 12 = .ok (.ifCond .ne 10, 3) := nq_d dX10_imageOf_0_g (n := 8) rfl
theorem dX10_imageOf_15 : decode cX10_imageOf 15 = .ok (.aload_n 0, 1) := nq_d dX10_imageOf_0_g (n := 9) rfl
theorem dX10_imageOf_16 : decode cX10_imageOf 16 = .ok (.getfield 30, 3) := nq_d dX10_imageOf_0_g (n := 10) rfl
theorem dX10_imageOf_19 : decode cX10_imageOf 19 = .ok (.goto 7, 3) := nq_d dX10_imageOf_0_g (n := 11) rfl
theorem dX10_imageOf_22 : decode cX10_imageOf 22 = .ok (.aload_n 0, 1) := nq_d dX10_imageOf_0_g (n := 12) rfl
theorem dX10_imageOf_23 : decode cX10_imageOf 23 = .ok (.getfield 33, 3) := nq_d dX10_imageOf_0_g (n := 13) rfl
theorem dX10_imageOf_26 : decode cX10_imageOf 26 = .ok (.areturn, 1) := nq_d dX10_imageOf_0_g (n := 14) rfl
set_option maxRecDepth 100000 in
theorem ggX10_expectedOf_X2_knows : GoodIn wsX10_expectedOf wsX2_knows := goodIn_sub (sub_c (nq_m (n := 9) rfl) (sub_c (nq_m (n := 10) rfl) (sub_c (nq_m (n := 53) rfl) (sub_c (nq_m (n := 54) rfl) (sub_c (nq_m (n := 55) rfl) (sub_c (nq_m (n := 56) rfl) (sub_c (nq_m (n := 57) rfl) (sub_c (nq_m (n := 58) rfl) (sub_c (nq_m (n := 59) rfl) (sub_c (nq_m (n := 60) rfl) sub_n)))))))))) (by decide +kernel)
set_option maxRecDepth 100000 in
theorem gX10_expectedOf_X2_knows : GoodIn wsX10_expectedOf (wsV RX10 158 RX2 yX2_knows wsX2_knows) := goodIn_app (goodIn_sub (sub_c (nq_m (n := 5) rfl) (sub_c (nq_m (n := 6) rfl) (sub_c (nq_m (n := 7) rfl) (sub_c (nq_m (n := 8) rfl) sub_n)))) (by decide +kernel)) ggX10_expectedOf_X2_knows
set_option maxRecDepth 100000 in
theorem ggX10_expectedOf_X10_oddsInPlace : GoodIn wsX10_expectedOf wsX10_oddsInPlace := goodIn_sub (sub_c (nq_m (n := 15) rfl) (sub_c (nq_m (n := 16) rfl) (sub_c (nq_m (n := 4) rfl) (sub_c (nq_m (n := 1) rfl) (sub_c (nq_m (n := 17) rfl) (sub_c (nq_m (n := 18) rfl) (sub_c (nq_m (n := 19) rfl) (sub_c (nq_m (n := 20) rfl) (sub_c (nq_m (n := 21) rfl) (sub_c (nq_m (n := 22) rfl) (sub_c (nq_m (n := 23) rfl) (sub_c (nq_m (n := 24) rfl) (sub_c (nq_m (n := 25) rfl) (sub_c (nq_m (n := 14) rfl) (sub_c (nq_m (n := 26) rfl) (sub_c (nq_m (n := 27) rfl) (sub_c (nq_m (n := 28) rfl) (sub_c (nq_m (n := 29) rfl) (sub_c (nq_m (n := 30) rfl) (sub_c (nq_m (n := 31) rfl) (sub_c (nq_m (n := 32) rfl) (sub_c (nq_m (n := 38) rfl) (sub_c (nq_m (n := 39) rfl) (sub_c (nq_m (n := 40) rfl) (sub_c (nq_m (n := 41) rfl) (sub_c (nq_m (n := 42) rfl) (sub_c (nq_m (n := 43) rfl) (sub_c (nq_m (n := 44) rfl) (sub_c (nq_m (n := 45) rfl) (sub_c (nq_m (n := 46) rfl) (sub_c (nq_m (n := 47) rfl) (sub_c (nq_m (n := 48) rfl) (sub_c (nq_m (n := 49) rfl) (sub_c (nq_m (n := 50) rfl) (sub_c (nq_m (n := 51) rfl) (sub_c (nq_m (n := 52) rfl) (sub_c (nq_m (n := 61) rfl) (sub_c (nq_m (n := 62) rfl) (sub_c (nq_m (n := 63) rfl) (sub_c (nq_m (n := 64) rfl) (sub_c (nq_m (n := 65) rfl) (sub_c (nq_m (n := 66) rfl) (sub_c (nq_m (n := 67) rfl) (sub_c (nq_m (n := 68) rfl) (sub_c (nq_m (n := 69) rfl) sub_n))))))))))))))))))))))))))))))))))))))))))))) (by decide +kernel)
set_option maxRecDepth 100000 in
theorem gX10_expectedOf_X10_oddsInPlace : GoodIn wsX10_expectedOf (wsV RX10 319 RX10 yX10_oddsInPlace wsX10_oddsInPlace) := goodIn_app (goodIn_sub (sub_c (nq_m (n := 11) rfl) (sub_c (nq_m (n := 12) rfl) (sub_c (nq_m (n := 13) rfl) (sub_c (nq_m (n := 14) rfl) sub_n)))) (by decide +kernel)) ggX10_expectedOf_X10_oddsInPlace
set_option maxRecDepth 100000 in
theorem ggX10_expectedOf_X3_weightOf : GoodIn wsX10_expectedOf wsX3_weightOf := goodIn_sub (sub_c (nq_m (n := 36) rfl) (sub_c (nq_m (n := 37) rfl) (sub_c (nq_m (n := 25) rfl) (sub_c (nq_m (n := 14) rfl) (sub_c (nq_m (n := 26) rfl) (sub_c (nq_m (n := 61) rfl) (sub_c (nq_m (n := 62) rfl) (sub_c (nq_m (n := 63) rfl) (sub_c (nq_m (n := 64) rfl) (sub_c (nq_m (n := 65) rfl) (sub_c (nq_m (n := 66) rfl) (sub_c (nq_m (n := 67) rfl) sub_n)))))))))))) (by decide +kernel)
set_option maxRecDepth 100000 in
theorem gX10_expectedOf_X3_weightOf : GoodIn wsX10_expectedOf (wsV RX10 151 RX3 yX3_weightOf wsX3_weightOf) := goodIn_app (goodIn_sub (sub_c (nq_m (n := 33) rfl) (sub_c (nq_m (n := 34) rfl) (sub_c (nq_m (n := 35) rfl) (sub_c (nq_m (n := 22) rfl) sub_n)))) (by decide +kernel)) ggX10_expectedOf_X3_weightOf
noncomputable def dX10_expectedOf_0_l : List (Nat × Instr × Nat) := [(0, .aload_n 0, 1), (1, .getfield 26, 3), (4, .getfield 116, 3), (7, .iload_n 1, 1), (8, .invokevirtual 158, 3), (11, .ifCond .ne 5, 3), (14, .iconst 0, 1), (15, .ireturn, 1), (16, .iconst 0, 1), (17, .istore_n 2, 1), (18, .iconst 0, 1), (19, .istore_n 3, 1), (20, .iload_n 3, 1), (21, .iconst 3, 1), (22, .if_icmp .ge 38, 3), (25, .iload_n 2, 1), (26, .aload_n 0, 1), (27, .aload_n 0, 1), (28, .getfield 26, 3), (31, .getfield 116, 3), (34, .getfield 161, 3), (37, .iload_n 1, 1), (38, .iaload, 1), (39, .iload_n 3, 1), (40, .invokevirtual 319, 3), (43, .aload_n 0, 1), (44, .getfield 10, 3), (47, .iload_n 3, 1), (48, .invokevirtual 151, 3), (51, .imul, 1), (52, .iadd, 1), (53, .istore_n 2, 1), (54, .iinc 3 1, 3), (57, .goto (-37), 3), (60, .iload_n 2, 1), (61, .ireturn, 1)]
set_option maxRecDepth 100000 in
theorem dX10_expectedOf_0_g : dX10_expectedOf_0_l.all (fun x => decide (decode cX10_expectedOf x.1 = .ok x.2)) = true := by decide +kernel
theorem dX10_expectedOf_0 : decode cX10_expectedOf 0 = .ok (.aload_n 0, 1) := nq_d dX10_expectedOf_0_g (n := 0) rfl
theorem dX10_expectedOf_1 : decode cX10_expectedOf 1 = .ok (.getfield 26, 3) := nq_d dX10_expectedOf_0_g (n := 1) rfl
theorem dX10_expectedOf_4 : decode cX10_expectedOf 4 = .ok (.getfield 116, 3) := nq_d dX10_expectedOf_0_g (n := 2) rfl
theorem dX10_expectedOf_7 : decode cX10_expectedOf 7 = .ok (.iload_n 1, 1) := nq_d dX10_expectedOf_0_g (n := 3) rfl
theorem dX10_expectedOf_8 : decode cX10_expectedOf 8 = .ok (.invokevirtual 158, 3) := nq_d dX10_expectedOf_0_g (n := 4) rfl
theorem dX10_expectedOf_11 : decode cX10_expectedOf 11 = .ok (.ifCond .ne 5, 3) := nq_d dX10_expectedOf_0_g (n := 5) rfl
theorem dX10_expectedOf_14 : decode cX10_expectedOf 14 = .ok (.iconst 0, 1) := nq_d dX10_expectedOf_0_g (n := 6) rfl
theorem dX10_expectedOf_15 : decode cX10_expectedOf 15 = .ok (.ireturn, 1) := nq_d dX10_expectedOf_0_g (n := 7) rfl
theorem dX10_expectedOf_16 : decode cX10_expectedOf 16 = .ok (.iconst 0, 1) := nq_d dX10_expectedOf_0_g (n := 8) rfl
theorem dX10_expectedOf_17 : decode cX10_expectedOf 17 = .ok (.istore_n 2, 1) := nq_d dX10_expectedOf_0_g (n := 9) rfl
theorem dX10_expectedOf_18 : decode cX10_expectedOf 18 = .ok (.iconst 0, 1) := nq_d dX10_expectedOf_0_g (n := 10) rfl
theorem dX10_expectedOf_19 : decode cX10_expectedOf 19 = .ok (.istore_n 3, 1) := nq_d dX10_expectedOf_0_g (n := 11) rfl
theorem dX10_expectedOf_20 : decode cX10_expectedOf 20 = .ok (.iload_n 3, 1) := nq_d dX10_expectedOf_0_g (n := 12) rfl
theorem dX10_expectedOf_21 : decode cX10_expectedOf 21 = .ok (.iconst 3, 1) := nq_d dX10_expectedOf_0_g (n := 13) rfl
theorem dX10_expectedOf_22 : decode cX10_expectedOf 22 = .ok (.if_icmp .ge 38, 3) := nq_d dX10_expectedOf_0_g (n := 14) rfl
theorem dX10_expectedOf_25 : decode cX10_expectedOf 25 = .ok (.iload_n 2, 1) := nq_d dX10_expectedOf_0_g (n := 15) rfl
theorem dX10_expectedOf_26 : decode cX10_expectedOf 26 = .ok (.aload_n 0, 1) := nq_d dX10_expectedOf_0_g (n := 16) rfl
theorem dX10_expectedOf_27 : decode cX10_expectedOf 27 = .ok (.aload_n 0, 1) := nq_d dX10_expectedOf_0_g (n := 17) rfl
theorem dX10_expectedOf_28 : decode cX10_expectedOf 28 = .ok (.getfield 26, 3) := nq_d dX10_expectedOf_0_g (n := 18) rfl
theorem dX10_expectedOf_31 : decode cX10_expectedOf 31 = .ok (.getfield 116, 3) := nq_d dX10_expectedOf_0_g (n := 19) rfl
theorem dX10_expectedOf_34 : decode cX10_expectedOf 34 = .ok (.getfield 161, 3) := nq_d dX10_expectedOf_0_g (n := 20) rfl
theorem dX10_expectedOf_37 : decode cX10_expectedOf 37 = .ok (.iload_n 1, 1) := nq_d dX10_expectedOf_0_g (n := 21) rfl
theorem dX10_expectedOf_38 : decode cX10_expectedOf 38 = .ok (.iaload, 1) := nq_d dX10_expectedOf_0_g (n := 22) rfl
theorem dX10_expectedOf_39 : decode cX10_expectedOf 39 = .ok (.iload_n 3, 1) := nq_d dX10_expectedOf_0_g (n := 23) rfl
theorem dX10_expectedOf_40 : decode cX10_expectedOf 40 = .ok (.invokevirtual 319, 3) := nq_d dX10_expectedOf_0_g (n := 24) rfl
theorem dX10_expectedOf_43 : decode cX10_expectedOf 43 = .ok (.aload_n 0, 1) := nq_d dX10_expectedOf_0_g (n := 25) rfl
theorem dX10_expectedOf_44 : decode cX10_expectedOf 44 = .ok (.getfield 10, 3) := nq_d dX10_expectedOf_0_g (n := 26) rfl
theorem dX10_expectedOf_47 : decode cX10_expectedOf 47 = .ok (.iload_n 3, 1) := nq_d dX10_expectedOf_0_g (n := 27) rfl
theorem dX10_expectedOf_48 : decode cX10_expectedOf 48 = .ok (.invokevirtual 151, 3) := nq_d dX10_expectedOf_0_g (n := 28) rfl
theorem dX10_expectedOf_51 : decode cX10_expectedOf 51 = .ok (.imul, 1) := nq_d dX10_expectedOf_0_g (n := 29) rfl
theorem dX10_expectedOf_52 : decode cX10_expectedOf 52 = .ok (.iadd, 1) := nq_d dX10_expectedOf_0_g (n := 30) rfl
theorem dX10_expectedOf_53 : decode cX10_expectedOf 53 = .ok (.istore_n 2, 1) := nq_d dX10_expectedOf_0_g (n := 31) rfl
theorem dX10_expectedOf_54 : decode cX10_expectedOf 54 = .ok (.iinc 3 1, 3) := nq_d dX10_expectedOf_0_g (n := 32) rfl
theorem dX10_expectedOf_57 : decode cX10_expectedOf 57 = .ok (.goto (-37), 3) := nq_d dX10_expectedOf_0_g (n := 33) rfl
theorem dX10_expectedOf_60 : decode cX10_expectedOf 60 = .ok (.iload_n 2, 1) := nq_d dX10_expectedOf_0_g (n := 34) rfl
theorem dX10_expectedOf_61 : decode cX10_expectedOf 61 = .ok (.ireturn, 1) := nq_d dX10_expectedOf_0_g (n := 35) rfl
set_option maxRecDepth 100000 in
theorem ggX10_oddsInPlace_X3_shareOf : GoodIn wsX10_oddsInPlace wsX3_shareOf := goodIn_sub (sub_c (nq_m (n := 10) rfl) (sub_c (nq_m (n := 11) rfl) (sub_c (nq_m (n := 12) rfl) (sub_c (nq_m (n := 13) rfl) (sub_c (nq_m (n := 14) rfl) (sub_c (nq_m (n := 36) rfl) (sub_c (nq_m (n := 37) rfl) (sub_c (nq_m (n := 38) rfl) (sub_c (nq_m (n := 39) rfl) (sub_c (nq_m (n := 40) rfl) (sub_c (nq_m (n := 41) rfl) (sub_c (nq_m (n := 42) rfl) sub_n)))))))))))) (by decide +kernel)
set_option maxRecDepth 100000 in
theorem gX10_oddsInPlace_X3_shareOf : GoodIn wsX10_oddsInPlace (wsV RX10 126 RX3 yX3_shareOf wsX3_shareOf) := goodIn_app (goodIn_sub (sub_c (nq_m (n := 6) rfl) (sub_c (nq_m (n := 7) rfl) (sub_c (nq_m (n := 8) rfl) (sub_c (nq_m (n := 9) rfl) sub_n)))) (by decide +kernel)) ggX10_oddsInPlace_X3_shareOf
set_option maxRecDepth 100000 in
theorem ggX10_oddsInPlace_X6_oddsOf : GoodIn wsX10_oddsInPlace wsX6_oddsOf := goodIn_sub (sub_c (nq_m (n := 19) rfl) (sub_c (nq_m (n := 20) rfl) (sub_c (nq_m (n := 12) rfl) (sub_c (nq_m (n := 13) rfl) (sub_c (nq_m (n := 14) rfl) (sub_c (nq_m (n := 43) rfl) (sub_c (nq_m (n := 44) rfl) sub_n))))))) (by decide +kernel)
set_option maxRecDepth 100000 in
theorem gX10_oddsInPlace_X6_oddsOf : GoodIn wsX10_oddsInPlace (wsV RX10 202 RX6 yX6_oddsOf wsX6_oddsOf) := goodIn_app (goodIn_sub (sub_c (nq_m (n := 15) rfl) (sub_c (nq_m (n := 16) rfl) (sub_c (nq_m (n := 17) rfl) (sub_c (nq_m (n := 18) rfl) sub_n)))) (by decide +kernel)) ggX10_oddsInPlace_X6_oddsOf
noncomputable def dX10_oddsInPlace_0_l : List (Nat × Instr × Nat) := [(0, .aload_n 0, 1), (1, .getfield 57, 3), (4, .iconst (-1), 1), (5, .if_icmp .ne 13, 3), (8, .aload_n 0, 1), (9, .getfield 10, 3), (12, .iload_n 1, 1), (13, .iload_n 2, 1), (14, .invokevirtual 126, 3), (17, .ireturn, 1), (18, .aload_n 0, 1), (19, .getfield 26, 3), (22, .getfield 138, 3), (25, .aload_n 0, 1), (26, .getfield 57, 3), (29, .aload_n 0, 1), (30, .getfield 61, 3), (33, .iload_n 2, 1), (34, .invokevirtual 202, 3), (37, .ireturn, 1)]
set_option maxRecDepth 100000 in
theorem dX10_oddsInPlace_0_g : dX10_oddsInPlace_0_l.all (fun x => decide (decode cX10_oddsInPlace x.1 = .ok x.2)) = true := by decide +kernel
theorem dX10_oddsInPlace_0 : decode cX10_oddsInPlace 0 = .ok (.aload_n 0, 1) := nq_d dX10_oddsInPlace_0_g (n := 0) rfl
theorem dX10_oddsInPlace_1 : decode cX10_oddsInPlace 1 = .ok (.getfield 57, 3) := nq_d dX10_oddsInPlace_0_g (n := 1) rfl
theorem dX10_oddsInPlace_4 : decode cX10_oddsInPlace 4 = .ok (.iconst (-1), 1) := nq_d dX10_oddsInPlace_0_g (n := 2) rfl
theorem dX10_oddsInPlace_5 : decode cX10_oddsInPlace 5 = .ok (.if_icmp .ne 13, 3) := nq_d dX10_oddsInPlace_0_g (n := 3) rfl
theorem dX10_oddsInPlace_8 : decode cX10_oddsInPlace 8 = .ok (.aload_n 0, 1) := nq_d dX10_oddsInPlace_0_g (n := 4) rfl
theorem dX10_oddsInPlace_9 : decode cX10_oddsInPlace 9 = .ok (.getfield 10, 3) := nq_d dX10_oddsInPlace_0_g (n := 5) rfl
theorem dX10_oddsInPlace_12 : decode cX10_oddsInPlace 12 = .ok (.iload_n 1, 1) := nq_d dX10_oddsInPlace_0_g (n := 6) rfl
theorem dX10_oddsInPlace_13 : decode cX10_oddsInPlace 13 = .ok (.iload_n 2, 1) := nq_d dX10_oddsInPlace_0_g (n := 7) rfl
theorem dX10_oddsInPlace_14 : decode cX10_oddsInPlace 14 = .ok (.invokevirtual 126, 3) := nq_d dX10_oddsInPlace_0_g (n := 8) rfl
theorem dX10_oddsInPlace_17 : decode cX10_oddsInPlace 17 = .ok (.ireturn, 1) := nq_d dX10_oddsInPlace_0_g (n := 9) rfl
theorem dX10_oddsInPlace_18 : decode cX10_oddsInPlace 18 = .ok (.aload_n 0, 1) := nq_d dX10_oddsInPlace_0_g (n := 10) rfl
theorem dX10_oddsInPlace_19 : decode cX10_oddsInPlace 19 = .ok (.getfield 26, 3) := nq_d dX10_oddsInPlace_0_g (n := 11) rfl
theorem dX10_oddsInPlace_22 : decode cX10_oddsInPlace 22 = .ok (.getfield 138, 3) := nq_d dX10_oddsInPlace_0_g (n := 12) rfl
theorem dX10_oddsInPlace_25 : decode cX10_oddsInPlace 25 = .ok (.aload_n 0, 1) := nq_d dX10_oddsInPlace_0_g (n := 13) rfl
theorem dX10_oddsInPlace_26 : decode cX10_oddsInPlace 26 = .ok (.getfield 57, 3) := nq_d dX10_oddsInPlace_0_g (n := 14) rfl
theorem dX10_oddsInPlace_29 : decode cX10_oddsInPlace 29 = .ok (.aload_n 0, 1) := nq_d dX10_oddsInPlace_0_g (n := 15) rfl
theorem dX10_oddsInPlace_30 : decode cX10_oddsInPlace 30 = .ok (.getfield 61, 3) := nq_d dX10_oddsInPlace_0_g (n := 16) rfl
theorem dX10_oddsInPlace_33 : decode cX10_oddsInPlace 33 = .ok (.iload_n 2, 1) := nq_d dX10_oddsInPlace_0_g (n := 17) rfl
theorem dX10_oddsInPlace_34 : decode cX10_oddsInPlace 34 = .ok (.invokevirtual 202, 3) := nq_d dX10_oddsInPlace_0_g (n := 18) rfl
theorem dX10_oddsInPlace_37 : decode cX10_oddsInPlace 37 = .ok (.ireturn, 1) := nq_d dX10_oddsInPlace_0_g (n := 19) rfl
set_option maxRecDepth 100000 in
theorem ggX10_mayHang_X1_find : GoodIn wsX10_mayHang wsX1_find := goodIn_sub (sub_c (nq_m (n := 10) rfl) (sub_c (nq_m (n := 11) rfl) (sub_c (nq_m (n := 12) rfl) (sub_c (nq_m (n := 13) rfl) (sub_c (nq_m (n := 14) rfl) (sub_c (nq_m (n := 9) rfl) (sub_c (nq_m (n := 15) rfl) (sub_c (nq_m (n := 16) rfl) (sub_c (nq_m (n := 17) rfl) (sub_c (nq_m (n := 18) rfl) (sub_c (nq_m (n := 19) rfl) (sub_c (nq_m (n := 20) rfl) (sub_c (nq_m (n := 21) rfl) (sub_c (nq_m (n := 22) rfl) (sub_c (nq_m (n := 23) rfl) (sub_c (nq_m (n := 73) rfl) (sub_c (nq_m (n := 74) rfl) sub_n))))))))))))))))) (by decide +kernel)
set_option maxRecDepth 100000 in
theorem gX10_mayHang_X1_find : GoodIn wsX10_mayHang (wsV RX10 322 RX1 yX1_find wsX1_find) := goodIn_app (goodIn_sub (sub_c (nq_m (n := 6) rfl) (sub_c (nq_m (n := 7) rfl) (sub_c (nq_m (n := 8) rfl) (sub_c (nq_m (n := 9) rfl) sub_n)))) (by decide +kernel)) ggX10_mayHang_X1_find
set_option maxRecDepth 100000 in
theorem ggX10_mayHang_X0_isOf : GoodIn wsX10_mayHang wsX0_isOf := goodIn_sub (sub_c (nq_m (n := 28) rfl) (sub_c (nq_m (n := 29) rfl) (sub_c (nq_m (n := 30) rfl) (sub_c (nq_m (n := 75) rfl) (sub_c (nq_m (n := 76) rfl) (sub_c (nq_m (n := 77) rfl) (sub_c (nq_m (n := 78) rfl) sub_n))))))) (by decide +kernel)
set_option maxRecDepth 100000 in
theorem gX10_mayHang_X0_isOf : GoodIn wsX10_mayHang (wsV RX10 283 RX0 yX0_isOf wsX0_isOf) := goodIn_app (goodIn_sub (sub_c (nq_m (n := 24) rfl) (sub_c (nq_m (n := 25) rfl) (sub_c (nq_m (n := 26) rfl) (sub_c (nq_m (n := 27) rfl) sub_n)))) (by decide +kernel)) ggX10_mayHang_X0_isOf
set_option maxRecDepth 100000 in
theorem ggX10_mayHang_X2_kindOf : GoodIn wsX10_mayHang wsX2_kindOf := goodIn_sub (sub_c (nq_m (n := 35) rfl) (sub_c (nq_m (n := 36) rfl) (sub_c (nq_m (n := 37) rfl) (sub_c (nq_m (n := 38) rfl) (sub_c (nq_m (n := 39) rfl) (sub_c (nq_m (n := 34) rfl) (sub_c (nq_m (n := 40) rfl) (sub_c (nq_m (n := 41) rfl) (sub_c (nq_m (n := 79) rfl) (sub_c (nq_m (n := 80) rfl) (sub_c (nq_m (n := 81) rfl) (sub_c (nq_m (n := 82) rfl) (sub_c (nq_m (n := 83) rfl) (sub_c (nq_m (n := 84) rfl) (sub_c (nq_m (n := 85) rfl) (sub_c (nq_m (n := 86) rfl) sub_n)))))))))))))))) (by decide +kernel)
set_option maxRecDepth 100000 in
theorem gX10_mayHang_X2_kindOf : GoodIn wsX10_mayHang (wsV RX10 325 RX2 yX2_kindOf wsX2_kindOf) := goodIn_app (goodIn_sub (sub_c (nq_m (n := 31) rfl) (sub_c (nq_m (n := 32) rfl) (sub_c (nq_m (n := 33) rfl) (sub_c (nq_m (n := 34) rfl) sub_n)))) (by decide +kernel)) ggX10_mayHang_X2_kindOf
set_option maxRecDepth 100000 in
theorem ggX10_mayHang_X3_isOfKind : GoodIn wsX10_mayHang wsX3_isOfKind := goodIn_sub (sub_c (nq_m (n := 46) rfl) (sub_c (nq_m (n := 47) rfl) (sub_c (nq_m (n := 48) rfl) (sub_c (nq_m (n := 49) rfl) (sub_c (nq_m (n := 50) rfl) (sub_c (nq_m (n := 45) rfl) (sub_c (nq_m (n := 51) rfl) (sub_c (nq_m (n := 52) rfl) (sub_c (nq_m (n := 87) rfl) (sub_c (nq_m (n := 88) rfl) (sub_c (nq_m (n := 89) rfl) (sub_c (nq_m (n := 90) rfl) (sub_c (nq_m (n := 91) rfl) (sub_c (nq_m (n := 92) rfl) (sub_c (nq_m (n := 93) rfl) sub_n))))))))))))))) (by decide +kernel)
set_option maxRecDepth 100000 in
theorem gX10_mayHang_X3_isOfKind : GoodIn wsX10_mayHang (wsV RX10 328 RX3 yX3_isOfKind wsX3_isOfKind) := goodIn_app (goodIn_sub (sub_c (nq_m (n := 42) rfl) (sub_c (nq_m (n := 43) rfl) (sub_c (nq_m (n := 44) rfl) (sub_c (nq_m (n := 45) rfl) sub_n)))) (by decide +kernel)) ggX10_mayHang_X3_isOfKind
set_option maxRecDepth 100000 in
theorem ggX10_mayHang_X2_ownerOn : GoodIn wsX10_mayHang wsX2_ownerOn := goodIn_sub (sub_c (nq_m (n := 56) rfl) (sub_c (nq_m (n := 41) rfl) (sub_c (nq_m (n := 57) rfl) (sub_c (nq_m (n := 79) rfl) (sub_c (nq_m (n := 80) rfl) (sub_c (nq_m (n := 81) rfl) (sub_c (nq_m (n := 82) rfl) (sub_c (nq_m (n := 83) rfl) (sub_c (nq_m (n := 84) rfl) (sub_c (nq_m (n := 85) rfl) (sub_c (nq_m (n := 86) rfl) sub_n))))))))))) (by decide +kernel)
set_option maxRecDepth 100000 in
theorem gX10_mayHang_X2_ownerOn : GoodIn wsX10_mayHang (wsV RX10 120 RX2 yX2_ownerOn wsX2_ownerOn) := goodIn_app (goodIn_sub (sub_c (nq_m (n := 53) rfl) (sub_c (nq_m (n := 54) rfl) (sub_c (nq_m (n := 55) rfl) (sub_c (nq_m (n := 34) rfl) sub_n)))) (by decide +kernel)) ggX10_mayHang_X2_ownerOn
noncomputable def dX10_mayHang_0_l : List (Nat × Instr × Nat) := [(0, .aload_n 0, 1), (1, .getfield 26, 3), (4, .getfield 78, 3), (7, .iconst 0, 1), (8, .iload_n 1, 1), (9, .invokevirtual 322, 3), (12, .iconst (-1), 1), (13, .if_icmp .ne 17, 3), (16, .aload_n 0, 1), (17, .getfield 26, 3), (20, .getfield 131, 3), (23, .iload_n 1, 1), (24, .invokevirtual 283, 3), (27, .ifCond .eq 5, 3), (30, .iconst 0, 1), (31, .ireturn, 1), (32, .aload_n 0, 1), (33, .getfield 10, 3), (36, .iload_n 2, 1), (37, .aload_n 0, 1), (38, .getfield 26, 3), (41, .getfield 116, 3), (44, .iload_n 1, 1), (45, .invokevirtual 325, 3), (48, .invokevirtual 328, 3), (51, .ifCond .eq 22, 3), (54, .aload_n 0, 1), (55, .getfield 26, 3), (58, .getfield 116, 3), (61, .iload_n 2, 1), (62, .invokevirtual 120, 3), (65, .iconst (-1), 1), (66, .if_icmp .ne 7, 3), (69, .iconst 1, 1), (70, .goto 4, 3), (73, .iconst 0, 1), (74, .ireturn, 1)]
set_option maxRecDepth 100000 in
theorem dX10_mayHang_0_g : dX10_mayHang_0_l.all (fun x => decide (decode cX10_mayHang x.1 = .ok x.2)) = true := by decide +kernel
theorem dX10_mayHang_0 : decode cX10_mayHang 0 = .ok (.aload_n 0, 1) := nq_d dX10_mayHang_0_g (n := 0) rfl
theorem dX10_mayHang_1 : decode cX10_mayHang 1 = .ok (.getfield 26, 3) := nq_d dX10_mayHang_0_g (n := 1) rfl
theorem dX10_mayHang_4 : decode cX10_mayHang 4 = .ok (.getfield 78, 3) := nq_d dX10_mayHang_0_g (n := 2) rfl
theorem dX10_mayHang_7 : decode cX10_mayHang 7 = .ok (.iconst 0, 1) := nq_d dX10_mayHang_0_g (n := 3) rfl
theorem dX10_mayHang_8 : decode cX10_mayHang 8 = .ok (.iload_n 1, 1) := nq_d dX10_mayHang_0_g (n := 4) rfl
theorem dX10_mayHang_9 : decode cX10_mayHang 9 = .ok (.invokevirtual 322, 3) := nq_d dX10_mayHang_0_g (n := 5) rfl
theorem dX10_mayHang_12 : decode cX10_mayHang 12 = .ok (.iconst (-1), 1) := nq_d dX10_mayHang_0_g (n := 6) rfl
theorem dX10_mayHang_13 : decode cX10_mayHang 13 = .ok (.if_icmp .ne 17, 3) := nq_d dX10_mayHang_0_g (n := 7) rfl
theorem dX10_mayHang_16 : decode cX10_mayHang 16 = .ok (.aload_n 0, 1) := nq_d dX10_mayHang_0_g (n := 8) rfl
theorem dX10_mayHang_17 : decode cX10_mayHang 17 = .ok (.getfield 26, 3) := nq_d dX10_mayHang_0_g (n := 9) rfl
theorem dX10_mayHang_20 : decode cX10_mayHang 20 = .ok (.getfield 131, 3) := nq_d dX10_mayHang_0_g (n := 10) rfl
theorem dX10_mayHang_23 : decode cX10_mayHang 23 = .ok (.iload_n 1, 1) := nq_d dX10_mayHang_0_g (n := 11) rfl
theorem dX10_mayHang_24 : decode cX10_mayHang 24 = .ok (.invokevirtual 283, 3) := nq_d dX10_mayHang_0_g (n := 12) rfl
theorem dX10_mayHang_27 : decode cX10_mayHang 27 = .ok (.ifCond .eq 5, 3) := nq_d dX10_mayHang_0_g (n := 13) rfl
theorem dX10_mayHang_30 : decode cX10_mayHang 30 = .ok (.iconst 0, 1) := nq_d dX10_mayHang_0_g (n := 14) rfl
theorem dX10_mayHang_31 : decode cX10_mayHang 31 = .ok (.ireturn, 1) := nq_d dX10_mayHang_0_g (n := 15) rfl
theorem dX10_mayHang_32 : decode cX10_mayHang 32 = .ok (.aload_n 0, 1) := nq_d dX10_mayHang_0_g (n := 16) rfl
theorem dX10_mayHang_33 : decode cX10_mayHang 33 = .ok (.getfield 10, 3) := nq_d dX10_mayHang_0_g (n := 17) rfl
theorem dX10_mayHang_36 : decode cX10_mayHang 36 = .ok (.iload_n 2, 1) := nq_d dX10_mayHang_0_g (n := 18) rfl
theorem dX10_mayHang_37 : decode cX10_mayHang 37 = .ok (.aload_n 0, 1) := nq_d dX10_mayHang_0_g (n := 19) rfl
theorem dX10_mayHang_38 : decode cX10_mayHang 38 = .ok (.getfield 26, 3) := nq_d dX10_mayHang_0_g (n := 20) rfl
theorem dX10_mayHang_41 : decode cX10_mayHang 41 = .ok (.getfield 116, 3) := nq_d dX10_mayHang_0_g (n := 21) rfl
theorem dX10_mayHang_44 : decode cX10_mayHang 44 = .ok (.iload_n 1, 1) := nq_d dX10_mayHang_0_g (n := 22) rfl
theorem dX10_mayHang_45 : decode cX10_mayHang 45 = .ok (.invokevirtual 325, 3) := nq_d dX10_mayHang_0_g (n := 23) rfl
theorem dX10_mayHang_48 : decode cX10_mayHang 48 = .ok (.invokevirtual 328, 3) := nq_d dX10_mayHang_0_g (n := 24) rfl
theorem dX10_mayHang_51 : decode cX10_mayHang 51 = .ok (.ifCond .eq 22, 3) := nq_d dX10_mayHang_0_g (n := 25) rfl
theorem dX10_mayHang_54 : decode cX10_mayHang 54 = .ok (.aload_n 0, 1) := nq_d dX10_mayHang_0_g (n := 26) rfl
theorem dX10_mayHang_55 : decode cX10_mayHang 55 = .ok (.getfield 26, 3) := nq_d dX10_mayHang_0_g (n := 27) rfl
theorem dX10_mayHang_58 : decode cX10_mayHang 58 = .ok (.getfield 116, 3) := nq_d dX10_mayHang_0_g (n := 28) rfl
theorem dX10_mayHang_61 : decode cX10_mayHang 61 = .ok (.iload_n 2, 1) := nq_d dX10_mayHang_0_g (n := 29) rfl
theorem dX10_mayHang_62 : decode cX10_mayHang 62 = .ok (.invokevirtual 120, 3) := nq_d dX10_mayHang_0_g (n := 30) rfl
theorem dX10_mayHang_65 : decode cX10_mayHang 65 = .ok (.iconst (-1), 1) := nq_d dX10_mayHang_0_g (n := 31) rfl
theorem dX10_mayHang_66 : decode cX10_mayHang 66 = .ok (.if_icmp .ne 7, 3) := nq_d dX10_mayHang_0_g (n := 32) rfl
theorem dX10_mayHang_69 : decode cX10_mayHang 69 = .ok (.iconst 1, 1) := nq_d dX10_mayHang_0_g (n := 33) rfl
theorem dX10_mayHang_70 : decode cX10_mayHang 70 = .ok (.goto 4, 3) := nq_d dX10_mayHang_0_g (n := 34) rfl
theorem dX10_mayHang_73 : decode cX10_mayHang 73 = .ok (.iconst 0, 1) := nq_d dX10_mayHang_0_g (n := 35) rfl
theorem dX10_mayHang_74 : decode cX10_mayHang 74 = .ok (.ireturn, 1) := nq_d dX10_mayHang_0_g (n := 36) rfl
set_option maxRecDepth 100000 in
theorem ggX10_allHang_X2_hangs : GoodIn wsX10_allHang wsX2_hangs := goodIn_sub (sub_c (nq_m (n := 8) rfl) (sub_c (nq_m (n := 9) rfl) (sub_c (nq_m (n := 10) rfl) (sub_c (nq_m (n := 11) rfl) (sub_c (nq_m (n := 12) rfl) (sub_c (nq_m (n := 7) rfl) (sub_c (nq_m (n := 13) rfl) (sub_c (nq_m (n := 14) rfl) (sub_c (nq_m (n := 30) rfl) (sub_c (nq_m (n := 31) rfl) (sub_c (nq_m (n := 32) rfl) (sub_c (nq_m (n := 33) rfl) (sub_c (nq_m (n := 34) rfl) (sub_c (nq_m (n := 35) rfl) (sub_c (nq_m (n := 36) rfl) (sub_c (nq_m (n := 37) rfl) sub_n)))))))))))))))) (by decide +kernel)
set_option maxRecDepth 100000 in
theorem gX10_allHang_X2_hangs : GoodIn wsX10_allHang (wsV RX10 331 RX2 yX2_hangs wsX2_hangs) := goodIn_app (goodIn_sub (sub_c (nq_m (n := 4) rfl) (sub_c (nq_m (n := 5) rfl) (sub_c (nq_m (n := 6) rfl) (sub_c (nq_m (n := 7) rfl) sub_n)))) (by decide +kernel)) ggX10_allHang_X2_hangs
noncomputable def dX10_allHang_0_l : List (Nat × Instr × Nat) := [(0, .iconst 0, 1), (1, .istore_n 2, 1), (2, .iconst 0, 1), (3, .istore_n 3, 1), (4, .iload_n 3, 1), (5, .aload_n 0, 1), (6, .getfield 26, 3), (9, .getfield 116, 3), (12, .getfield 130, 3), (15, .if_icmp .ge 29, 3), (18, .aload_n 0, 1), (19, .getfield 26, 3), (22, .getfield 116, 3), (25, .iload_n 3, 1), (26, .invokevirtual 331, 3), (29, .ifCond .eq 9, 3), (32, .iload_n 2, 1), (33, .iconst 1, 1), (34, .iload_n 3, 1), (35, .ishl, 1), (36, .ior, 1), (37, .istore_n 2, 1), (38, .iinc 3 1, 3), (41, .goto (-37), 3), (44, .iload_n 1, 1), (45, .iload_n 2, 1), (46, .iconst (-1), 1), (47, .ixor, 1), (48, .iand, 1), (49, .ifCond .ne 7, 3), (52, .iconst 1, 1), (53, .goto 4, 3), (56, .iconst 0, 1), (57, .ireturn, 1)]
set_option maxRecDepth 100000 in
theorem dX10_allHang_0_g : dX10_allHang_0_l.all (fun x => decide (decode cX10_allHang x.1 = .ok x.2)) = true := by decide +kernel
theorem dX10_allHang_0 : decode cX10_allHang 0 = .ok (.iconst 0, 1) := nq_d dX10_allHang_0_g (n := 0) rfl
theorem dX10_allHang_1 : decode cX10_allHang 1 = .ok (.istore_n 2, 1) := nq_d dX10_allHang_0_g (n := 1) rfl
theorem dX10_allHang_2 : decode cX10_allHang 2 = .ok (.iconst 0, 1) := nq_d dX10_allHang_0_g (n := 2) rfl
theorem dX10_allHang_3 : decode cX10_allHang 3 = .ok (.istore_n 3, 1) := nq_d dX10_allHang_0_g (n := 3) rfl
theorem dX10_allHang_4 : decode cX10_allHang 4 = .ok (.iload_n 3, 1) := nq_d dX10_allHang_0_g (n := 4) rfl
theorem dX10_allHang_5 : decode cX10_allHang 5 = .ok (.aload_n 0, 1) := nq_d dX10_allHang_0_g (n := 5) rfl
theorem dX10_allHang_6 : decode cX10_allHang 6 = .ok (.getfield 26, 3) := nq_d dX10_allHang_0_g (n := 6) rfl
theorem dX10_allHang_9 : decode cX10_allHang 9 = .ok (.getfield 116, 3) := nq_d dX10_allHang_0_g (n := 7) rfl
theorem dX10_allHang_12 : decode cX10_allHang 12 = .ok (.getfield 130, 3) := nq_d dX10_allHang_0_g (n := 8) rfl
theorem dX10_allHang_15 : decode cX10_allHang 15 = .ok (.if_icmp .ge 29, 3) := nq_d dX10_allHang_0_g (n := 9) rfl
theorem dX10_allHang_18 : decode cX10_allHang 18 = .ok (.aload_n 0, 1) := nq_d dX10_allHang_0_g (n := 10) rfl
theorem dX10_allHang_19 : decode cX10_allHang 19 = .ok (.getfield 26, 3) := nq_d dX10_allHang_0_g (n := 11) rfl
theorem dX10_allHang_22 : decode cX10_allHang 22 = .ok (.getfield 116, 3) := nq_d dX10_allHang_0_g (n := 12) rfl
theorem dX10_allHang_25 : decode cX10_allHang 25 = .ok (.iload_n 3, 1) := nq_d dX10_allHang_0_g (n := 13) rfl
theorem dX10_allHang_26 : decode cX10_allHang 26 = .ok (.invokevirtual 331, 3) := nq_d dX10_allHang_0_g (n := 14) rfl
theorem dX10_allHang_29 : decode cX10_allHang 29 = .ok (.ifCond .eq 9, 3) := nq_d dX10_allHang_0_g (n := 15) rfl
theorem dX10_allHang_32 : decode cX10_allHang 32 = .ok (.iload_n 2, 1) := nq_d dX10_allHang_0_g (n := 16) rfl
theorem dX10_allHang_33 : decode cX10_allHang 33 = .ok (.iconst 1, 1) := nq_d dX10_allHang_0_g (n := 17) rfl
theorem dX10_allHang_34 : decode cX10_allHang 34 = .ok (.iload_n 3, 1) := nq_d dX10_allHang_0_g (n := 18) rfl
theorem dX10_allHang_35 : decode cX10_allHang 35 = .ok (.ishl, 1) := nq_d dX10_allHang_0_g (n := 19) rfl
theorem dX10_allHang_36 : decode cX10_allHang 36 = .ok (.ior, 1) := nq_d dX10_allHang_0_g (n := 20) rfl
theorem dX10_allHang_37 : decode cX10_allHang 37 = .ok (.istore_n 2, 1) := nq_d dX10_allHang_0_g (n := 21) rfl
theorem dX10_allHang_38 : decode cX10_allHang 38 = .ok (.iinc 3 1, 3) := nq_d dX10_allHang_0_g (n := 22) rfl
theorem dX10_allHang_41 : decode cX10_allHang 41 = .ok (.goto (-37), 3) := nq_d dX10_allHang_0_g (n := 23) rfl
theorem dX10_allHang_44 : decode cX10_allHang 44 = .ok (.iload_n 1, 1) := nq_d dX10_allHang_0_g (n := 24) rfl
theorem dX10_allHang_45 : decode cX10_allHang 45 = .ok (.iload_n 2, 1) := nq_d dX10_allHang_0_g (n := 25) rfl
theorem dX10_allHang_46 : decode cX10_allHang 46 = .ok (.iconst (-1), 1) := nq_d dX10_allHang_0_g (n := 26) rfl
theorem dX10_allHang_47 : decode cX10_allHang 47 = .ok (.ixor, 1) := nq_d dX10_allHang_0_g (n := 27) rfl
theorem dX10_allHang_48 : decode cX10_allHang 48 = .ok (.iand, 1) := nq_d dX10_allHang_0_g (n := 28) rfl
theorem dX10_allHang_49 : decode cX10_allHang 49 = .ok (.ifCond .ne 7, 3) := nq_d dX10_allHang_0_g (n := 29) rfl
theorem dX10_allHang_52 : decode cX10_allHang 52 = .ok (.iconst 1, 1) := nq_d dX10_allHang_0_g (n := 30) rfl
theorem dX10_allHang_53 : decode cX10_allHang 53 = .ok (.goto 4, 3) := nq_d dX10_allHang_0_g (n := 31) rfl
theorem dX10_allHang_56 : decode cX10_allHang 56 = .ok (.iconst 0, 1) := nq_d dX10_allHang_0_g (n := 32) rfl
theorem dX10_allHang_57 : decode cX10_allHang 57 = .ok (.ireturn, 1) := nq_d dX10_allHang_0_g (n := 33) rfl
set_option maxRecDepth 100000 in
theorem ggX11_init_X11_bare : GoodIn wsX11_init wsX11_bare := goodIn_sub (sub_c (nq_m (n := 46) rfl) (sub_c (nq_m (n := 47) rfl) (sub_c (nq_m (n := 48) rfl) (sub_c (nq_m (n := 49) rfl) (sub_c (nq_m (n := 13) rfl) (sub_c (nq_m (n := 14) rfl) (sub_c (nq_m (n := 56) rfl) (sub_c (nq_m (n := 57) rfl) (sub_c (nq_m (n := 58) rfl) (sub_c (nq_m (n := 59) rfl) (sub_c (nq_m (n := 60) rfl) (sub_c (nq_m (n := 61) rfl) (sub_c (nq_m (n := 62) rfl) (sub_c (nq_m (n := 63) rfl) (sub_c (nq_m (n := 64) rfl) (sub_c (nq_m (n := 65) rfl) (sub_c (nq_m (n := 66) rfl) (sub_c (nq_m (n := 67) rfl) (sub_c (nq_m (n := 68) rfl) (sub_c (nq_m (n := 69) rfl) (sub_c (nq_m (n := 70) rfl) (sub_c (nq_m (n := 71) rfl) (sub_c (nq_m (n := 72) rfl) (sub_c (nq_m (n := 73) rfl) (sub_c (nq_m (n := 74) rfl) (sub_c (nq_m (n := 75) rfl) (sub_c (nq_m (n := 76) rfl) (sub_c (nq_m (n := 77) rfl) (sub_c (nq_m (n := 78) rfl) (sub_c (nq_m (n := 79) rfl) (sub_c (nq_m (n := 80) rfl) (sub_c (nq_m (n := 81) rfl) (sub_c (nq_m (n := 82) rfl) (sub_c (nq_m (n := 83) rfl) (sub_c (nq_m (n := 84) rfl) (sub_c (nq_m (n := 85) rfl) (sub_c (nq_m (n := 86) rfl) (sub_c (nq_m (n := 87) rfl) (sub_c (nq_m (n := 88) rfl) (sub_c (nq_m (n := 89) rfl) (sub_c (nq_m (n := 90) rfl) (sub_c (nq_m (n := 91) rfl) (sub_c (nq_m (n := 92) rfl) (sub_c (nq_m (n := 93) rfl) (sub_c (nq_m (n := 94) rfl) (sub_c (nq_m (n := 95) rfl) (sub_c (nq_m (n := 96) rfl) (sub_c (nq_m (n := 97) rfl) (sub_c (nq_m (n := 98) rfl) (sub_c (nq_m (n := 99) rfl) (sub_c (nq_m (n := 100) rfl) (sub_c (nq_m (n := 101) rfl) (sub_c (nq_m (n := 102) rfl) (sub_c (nq_m (n := 103) rfl) (sub_c (nq_m (n := 104) rfl) (sub_c (nq_m (n := 105) rfl) (sub_c (nq_m (n := 106) rfl) (sub_c (nq_m (n := 107) rfl) (sub_c (nq_m (n := 108) rfl) (sub_c (nq_m (n := 109) rfl) (sub_c (nq_m (n := 110) rfl) (sub_c (nq_m (n := 111) rfl) (sub_c (nq_m (n := 112) rfl) (sub_c (nq_m (n := 113) rfl) sub_n)))))))))))))))))))))))))))))))))))))))))))))))))))))))))))))))) (by decide +kernel)
set_option maxRecDepth 100000 in
theorem gX11_init_X11_bare : GoodIn wsX11_init (wsV RX11 118 RX11 yX11_bare wsX11_bare) := goodIn_app (goodIn_sub (sub_c (nq_m (n := 42) rfl) (sub_c (nq_m (n := 43) rfl) (sub_c (nq_m (n := 44) rfl) (sub_c (nq_m (n := 45) rfl) sub_n)))) (by decide +kernel)) ggX11_init_X11_bare
set_option maxRecDepth 100000 in
theorem ggX11_init_X11_keepHall : GoodIn wsX11_init wsX11_keepHall := goodIn_sub (sub_c (nq_m (n := 53) rfl) (sub_c (nq_m (n := 47) rfl) (sub_c (nq_m (n := 54) rfl) (sub_c (nq_m (n := 5) rfl) (sub_c (nq_m (n := 11) rfl) (sub_c (nq_m (n := 6) rfl) (sub_c (nq_m (n := 12) rfl) (sub_c (nq_m (n := 7) rfl) (sub_c (nq_m (n := 13) rfl) (sub_c (nq_m (n := 8) rfl) (sub_c (nq_m (n := 14) rfl) (sub_c (nq_m (n := 55) rfl) (sub_c (nq_m (n := 56) rfl) (sub_c (nq_m (n := 57) rfl) (sub_c (nq_m (n := 58) rfl) (sub_c (nq_m (n := 59) rfl) (sub_c (nq_m (n := 60) rfl) (sub_c (nq_m (n := 61) rfl) (sub_c (nq_m (n := 62) rfl) (sub_c (nq_m (n := 63) rfl) (sub_c (nq_m (n := 64) rfl) (sub_c (nq_m (n := 65) rfl) (sub_c (nq_m (n := 66) rfl) (sub_c (nq_m (n := 67) rfl) (sub_c (nq_m (n := 68) rfl) (sub_c (nq_m (n := 69) rfl) (sub_c (nq_m (n := 70) rfl) (sub_c (nq_m (n := 71) rfl) (sub_c (nq_m (n := 72) rfl) (sub_c (nq_m (n := 73) rfl) (sub_c (nq_m (n := 74) rfl) (sub_c (nq_m (n := 75) rfl) (sub_c (nq_m (n := 76) rfl) (sub_c (nq_m (n := 77) rfl) (sub_c (nq_m (n := 78) rfl) (sub_c (nq_m (n := 79) rfl) (sub_c (nq_m (n := 80) rfl) (sub_c (nq_m (n := 81) rfl) (sub_c (nq_m (n := 82) rfl) (sub_c (nq_m (n := 83) rfl) (sub_c (nq_m (n := 84) rfl) (sub_c (nq_m (n := 85) rfl) (sub_c (nq_m (n := 86) rfl) (sub_c (nq_m (n := 87) rfl) (sub_c (nq_m (n := 88) rfl) (sub_c (nq_m (n := 89) rfl) (sub_c (nq_m (n := 90) rfl) (sub_c (nq_m (n := 91) rfl) (sub_c (nq_m (n := 92) rfl) (sub_c (nq_m (n := 93) rfl) (sub_c (nq_m (n := 94) rfl) (sub_c (nq_m (n := 95) rfl) (sub_c (nq_m (n := 96) rfl) (sub_c (nq_m (n := 97) rfl) (sub_c (nq_m (n := 98) rfl) (sub_c (nq_m (n := 99) rfl) (sub_c (nq_m (n := 100) rfl) (sub_c (nq_m (n := 101) rfl) (sub_c (nq_m (n := 102) rfl) (sub_c (nq_m (n := 103) rfl) (sub_c (nq_m (n := 104) rfl) (sub_c (nq_m (n := 105) rfl) (sub_c (nq_m (n := 106) rfl) (sub_c (nq_m (n := 107) rfl) (sub_c (nq_m (n := 108) rfl) (sub_c (nq_m (n := 109) rfl) (sub_c (nq_m (n := 110) rfl) (sub_c (nq_m (n := 111) rfl) (sub_c (nq_m (n := 112) rfl) (sub_c (nq_m (n := 113) rfl) sub_n)))))))))))))))))))))))))))))))))))))))))))))))))))))))))))))))))))))) (by decide +kernel)
set_option maxRecDepth 100000 in
theorem gX11_init_X11_keepHall : GoodIn wsX11_init (wsV RX11 121 RX11 yX11_keepHall wsX11_keepHall) := goodIn_app (goodIn_sub (sub_c (nq_m (n := 50) rfl) (sub_c (nq_m (n := 51) rfl) (sub_c (nq_m (n := 52) rfl) (sub_c (nq_m (n := 45) rfl) sub_n)))) (by decide +kernel)) ggX11_init_X11_keepHall
noncomputable def dX11_init_0_l : List (Nat × Instr × Nat) := [(0, .aload_n 0, 1), (1, .invokespecial 1, 3), (4, .aload_n 0, 1), (5, .bipush 24, 2), (7, .newarray .int, 2), (9, .putfield 7, 3), (12, .aload_n 0, 1), (13, .bipush 24, 2), (15, .newarray .int, 2), (17, .putfield 13, 3), (20, .aload_n 0, 1), (21, .bipush 12, 2), (23, .newarray .int, 2), (25, .putfield 16, 3), (28, .aload_n 0, 1), (29, .iconst 5, 1), (30, .newarray .int, 2), (32, .putfield 19, 3), (35, .aload_n 0, 1), (36, .sipush 240, 3), (39, .newarray .int, 2), (41, .putfield 22, 3), (44, .aload_n 0, 1), (45, .iconst (-1), 1), (46, .putfield 25, 3), (49, .aload_n 0, 1), (50, .bipush 24, 2), (52, .newarray .int, 2), (54, .putfield 29, 3), (57, .aload_n 0, 1), (58, .bipush 24, 2), (60, .newarray .int, 2), (62, .putfield 32, 3), (65, .aload_n 0, 1), (66, .bipush 12, 2), (68, .newarray .int, 2), (70, .putfield 35, 3), (73, .aload_n 0, 1), (74, .iconst 5, 1), (75, .newarray .int, 2)]
set_option maxRecDepth 100000 in
theorem dX11_init_0_g : dX11_init_0_l.all (fun x => decide (decode cX11_init x.1 = .ok x.2)) = true := by decide +kernel
theorem dX11_init_0 : decode cX11_init 0 = .ok (.aload_n 0, 1) := nq_d dX11_init_0_g (n := 0) rfl
theorem dX11_init_1 : decode cX11_init 1 = .ok (.invokespecial 1, 3) := nq_d dX11_init_0_g (n := 1) rfl
theorem dX11_init_4 : decode cX11_init 4 = .ok (.aload_n 0, 1) := nq_d dX11_init_0_g (n := 2) rfl
theorem dX11_init_5 : decode cX11_init 5 = .ok (.bipush 24, 2) := nq_d dX11_init_0_g (n := 3) rfl
theorem dX11_init_7 : decode cX11_init 7 = .ok (.newarray .int, 2) := nq_d dX11_init_0_g (n := 4) rfl
theorem dX11_init_9 : decode cX11_init 9 = .ok (.putfield 7, 3) := nq_d dX11_init_0_g (n := 5) rfl
theorem dX11_init_12 : decode cX11_init 12 = .ok (.aload_n 0, 1) := nq_d dX11_init_0_g (n := 6) rfl
theorem dX11_init_13 : decode cX11_init 13 = .ok (.bipush 24, 2) := nq_d dX11_init_0_g (n := 7) rfl
theorem dX11_init_15 : decode cX11_init 15 = .ok (.newarray .int, 2) := nq_d dX11_init_0_g (n := 8) rfl
theorem dX11_init_17 : decode cX11_init 17 = .ok (.putfield 13, 3) := nq_d dX11_init_0_g (n := 9) rfl
theorem dX11_init_20 : decode cX11_init 20 = .ok (.aload_n 0, 1) := nq_d dX11_init_0_g (n := 10) rfl
theorem dX11_init_21 : decode cX11_init 21 = .ok (.bipush 12, 2) := nq_d dX11_init_0_g (n := 11) rfl
theorem dX11_init_23 : decode cX11_init 23 = .ok (.newarray .int, 2) := nq_d dX11_init_0_g (n := 12) rfl
theorem dX11_init_25 : decode cX11_init 25 = .ok (.putfield 16, 3) := nq_d dX11_init_0_g (n := 13) rfl
theorem dX11_init_28 : decode cX11_init 28 = .ok (.aload_n 0, 1) := nq_d dX11_init_0_g (n := 14) rfl
theorem dX11_init_29 : decode cX11_init 29 = .ok (.iconst 5, 1) := nq_d dX11_init_0_g (n := 15) rfl
theorem dX11_init_30 : decode cX11_init 30 = .ok (.newarray .int, 2) := nq_d dX11_init_0_g (n := 16) rfl
theorem dX11_init_32 : decode cX11_init 32 = .ok (.putfield 19, 3) := nq_d dX11_init_0_g (n := 17) rfl
theorem dX11_init_35 : decode cX11_init 35 = .ok (.aload_n 0, 1) := nq_d dX11_init_0_g (n := 18) rfl
theorem dX11_init_36 : decode cX11_init 36 = .ok (.sipush 240, 3) := nq_d dX11_init_0_g (n := 19) rfl
theorem dX11_init_39 : decode cX11_init 39 = .ok (.newarray .int, 2) := nq_d dX11_init_0_g (n := 20) rfl
theorem dX11_init_41 : decode cX11_init 41 = .ok (.putfield 22, 3) := nq_d dX11_init_0_g (n := 21) rfl
theorem dX11_init_44 : decode cX11_init 44 = .ok (.aload_n 0, 1) := nq_d dX11_init_0_g (n := 22) rfl
theorem dX11_init_45 : decode cX11_init 45 = .ok (.iconst (-1), 1) := nq_d dX11_init_0_g (n := 23) rfl
theorem dX11_init_46 : decode cX11_init 46 = .ok (.putfield 25, 3) := nq_d dX11_init_0_g (n := 24) rfl
theorem dX11_init_49 : decode cX11_init 49 = .ok (.aload_n 0, 1) := nq_d dX11_init_0_g (n := 25) rfl
theorem dX11_init_50 : decode cX11_init 50 = .ok (.bipush 24, 2) := nq_d dX11_init_0_g (n := 26) rfl
theorem dX11_init_52 : decode cX11_init 52 = .ok (.newarray .int, 2) := nq_d dX11_init_0_g (n := 27) rfl
theorem dX11_init_54 : decode cX11_init 54 = .ok (.putfield 29, 3) := nq_d dX11_init_0_g (n := 28) rfl
theorem dX11_init_57 : decode cX11_init 57 = .ok (.aload_n 0, 1) := nq_d dX11_init_0_g (n := 29) rfl
theorem dX11_init_58 : decode cX11_init 58 = .ok (.bipush 24, 2) := nq_d dX11_init_0_g (n := 30) rfl
theorem dX11_init_60 : decode cX11_init 60 = .ok (.newarray .int, 2) := nq_d dX11_init_0_g (n := 31) rfl
theorem dX11_init_62 : decode cX11_init 62 = .ok (.putfield 32, 3) := nq_d dX11_init_0_g (n := 32) rfl
theorem dX11_init_65 : decode cX11_init 65 = .ok (.aload_n 0, 1) := nq_d dX11_init_0_g (n := 33) rfl
theorem dX11_init_66 : decode cX11_init 66 = .ok (.bipush 12, 2) := nq_d dX11_init_0_g (n := 34) rfl
theorem dX11_init_68 : decode cX11_init 68 = .ok (.newarray .int, 2) := nq_d dX11_init_0_g (n := 35) rfl
theorem dX11_init_70 : decode cX11_init 70 = .ok (.putfield 35, 3) := nq_d dX11_init_0_g (n := 36) rfl
theorem dX11_init_73 : decode cX11_init 73 = .ok (.aload_n 0, 1) := nq_d dX11_init_0_g (n := 37) rfl
theorem dX11_init_74 : decode cX11_init 74 = .ok (.iconst 5, 1) := nq_d dX11_init_0_g (n := 38) rfl
theorem dX11_init_75 : decode cX11_init 75 = .ok (.newarray .int, 2) := nq_d dX11_init_0_g (n := 39) rfl
noncomputable def dX11_init_77_l : List (Nat × Instr × Nat) := [(77, .putfield 38, 3), (80, .aload_n 0, 1), (81, .bipush 24, 2), (83, .newarray .int, 2), (85, .putfield 41, 3), (88, .aload_n 0, 1), (89, .bipush 16, 2), (91, .newarray .int, 2), (93, .putfield 44, 3), (96, .aload_n 0, 1), (97, .bipush 16, 2), (99, .newarray .int, 2), (101, .putfield 47, 3), (104, .aload_n 0, 1), (105, .bipush 16, 2), (107, .newarray .int, 2), (109, .putfield 50, 3), (112, .aload_n 0, 1), (113, .bipush 16, 2), (115, .newarray .int, 2), (117, .putfield 53, 3), (120, .aload_n 0, 1), (121, .bipush 16, 2), (123, .newarray .int, 2), (125, .putfield 56, 3), (128, .aload_n 0, 1), (129, .bipush 16, 2), (131, .newarray .int, 2), (133, .putfield 59, 3), (136, .aload_n 0, 1), (137, .bipush 16, 2), (139, .newarray .int, 2), (141, .putfield 62, 3), (144, .aload_n 0, 1), (145, .iconst (-1), 1), (146, .putfield 65, 3), (149, .aload_n 0, 1), (150, .bipush 16, 2), (152, .newarray .int, 2), (154, .putfield 68, 3)]
set_option maxRecDepth 100000 in
theorem dX11_init_77_g : dX11_init_77_l.all (fun x => decide (decode cX11_init x.1 = .ok x.2)) = true := by decide +kernel
theorem dX11_init_77 : decode cX11_init 77 = .ok (.putfield 38, 3) := nq_d dX11_init_77_g (n := 0) rfl
theorem dX11_init_80 : decode cX11_init 80 = .ok (.aload_n 0, 1) := nq_d dX11_init_77_g (n := 1) rfl
theorem dX11_init_81 : decode cX11_init 81 = .ok (.bipush 24, 2) := nq_d dX11_init_77_g (n := 2) rfl
theorem dX11_init_83 : decode cX11_init 83 = .ok (.newarray .int, 2) := nq_d dX11_init_77_g (n := 3) rfl
theorem dX11_init_85 : decode cX11_init 85 = .ok (.putfield 41, 3) := nq_d dX11_init_77_g (n := 4) rfl
theorem dX11_init_88 : decode cX11_init 88 = .ok (.aload_n 0, 1) := nq_d dX11_init_77_g (n := 5) rfl
theorem dX11_init_89 : decode cX11_init 89 = .ok (.bipush 16, 2) := nq_d dX11_init_77_g (n := 6) rfl
theorem dX11_init_91 : decode cX11_init 91 = .ok (.newarray .int, 2) := nq_d dX11_init_77_g (n := 7) rfl
theorem dX11_init_93 : decode cX11_init 93 = .ok (.putfield 44, 3) := nq_d dX11_init_77_g (n := 8) rfl
theorem dX11_init_96 : decode cX11_init 96 = .ok (.aload_n 0, 1) := nq_d dX11_init_77_g (n := 9) rfl
theorem dX11_init_97 : decode cX11_init 97 = .ok (.bipush 16, 2) := nq_d dX11_init_77_g (n := 10) rfl
theorem dX11_init_99 : decode cX11_init 99 = .ok (.newarray .int, 2) := nq_d dX11_init_77_g (n := 11) rfl
theorem dX11_init_101 : decode cX11_init 101 = .ok (.putfield 47, 3) := nq_d dX11_init_77_g (n := 12) rfl
theorem dX11_init_104 : decode cX11_init 104 = .ok (.aload_n 0, 1) := nq_d dX11_init_77_g (n := 13) rfl
theorem dX11_init_105 : decode cX11_init 105 = .ok (.bipush 16, 2) := nq_d dX11_init_77_g (n := 14) rfl
theorem dX11_init_107 : decode cX11_init 107 = .ok (.newarray .int, 2) := nq_d dX11_init_77_g (n := 15) rfl
theorem dX11_init_109 : decode cX11_init 109 = .ok (.putfield 50, 3) := nq_d dX11_init_77_g (n := 16) rfl
theorem dX11_init_112 : decode cX11_init 112 = .ok (.aload_n 0, 1) := nq_d dX11_init_77_g (n := 17) rfl
theorem dX11_init_113 : decode cX11_init 113 = .ok (.bipush 16, 2) := nq_d dX11_init_77_g (n := 18) rfl
theorem dX11_init_115 : decode cX11_init 115 = .ok (.newarray .int, 2) := nq_d dX11_init_77_g (n := 19) rfl
theorem dX11_init_117 : decode cX11_init 117 = .ok (.putfield 53, 3) := nq_d dX11_init_77_g (n := 20) rfl
theorem dX11_init_120 : decode cX11_init 120 = .ok (.aload_n 0, 1) := nq_d dX11_init_77_g (n := 21) rfl
theorem dX11_init_121 : decode cX11_init 121 = .ok (.bipush 16, 2) := nq_d dX11_init_77_g (n := 22) rfl
theorem dX11_init_123 : decode cX11_init 123 = .ok (.newarray .int, 2) := nq_d dX11_init_77_g (n := 23) rfl
theorem dX11_init_125 : decode cX11_init 125 = .ok (.putfield 56, 3) := nq_d dX11_init_77_g (n := 24) rfl
theorem dX11_init_128 : decode cX11_init 128 = .ok (.aload_n 0, 1) := nq_d dX11_init_77_g (n := 25) rfl
theorem dX11_init_129 : decode cX11_init 129 = .ok (.bipush 16, 2) := nq_d dX11_init_77_g (n := 26) rfl
theorem dX11_init_131 : decode cX11_init 131 = .ok (.newarray .int, 2) := nq_d dX11_init_77_g (n := 27) rfl
theorem dX11_init_133 : decode cX11_init 133 = .ok (.putfield 59, 3) := nq_d dX11_init_77_g (n := 28) rfl
theorem dX11_init_136 : decode cX11_init 136 = .ok (.aload_n 0, 1) := nq_d dX11_init_77_g (n := 29) rfl
theorem dX11_init_137 : decode cX11_init 137 = .ok (.bipush 16, 2) := nq_d dX11_init_77_g (n := 30) rfl
theorem dX11_init_139 : decode cX11_init 139 = .ok (.newarray .int, 2) := nq_d dX11_init_77_g (n := 31) rfl
theorem dX11_init_141 : decode cX11_init 141 = .ok (.putfield 62, 3) := nq_d dX11_init_77_g (n := 32) rfl
theorem dX11_init_144 : decode cX11_init 144 = .ok (.aload_n 0, 1) := nq_d dX11_init_77_g (n := 33) rfl
theorem dX11_init_145 : decode cX11_init 145 = .ok (.iconst (-1), 1) := nq_d dX11_init_77_g (n := 34) rfl
theorem dX11_init_146 : decode cX11_init 146 = .ok (.putfield 65, 3) := nq_d dX11_init_77_g (n := 35) rfl
theorem dX11_init_149 : decode cX11_init 149 = .ok (.aload_n 0, 1) := nq_d dX11_init_77_g (n := 36) rfl
theorem dX11_init_150 : decode cX11_init 150 = .ok (.bipush 16, 2) := nq_d dX11_init_77_g (n := 37) rfl
theorem dX11_init_152 : decode cX11_init 152 = .ok (.newarray .int, 2) := nq_d dX11_init_77_g (n := 38) rfl
theorem dX11_init_154 : decode cX11_init 154 = .ok (.putfield 68, 3) := nq_d dX11_init_77_g (n := 39) rfl
noncomputable def dX11_init_157_l : List (Nat × Instr × Nat) := [(157, .aload_n 0, 1), (158, .bipush 24, 2), (160, .newarray .boolean, 2), (162, .putfield 71, 3), (165, .aload_n 0, 1), (166, .bipush 60, 2), (168, .newarray .int, 2), (170, .putfield 75, 3), (173, .aload_n 0, 1), (174, .bipush 60, 2), (176, .newarray .int, 2), (178, .putfield 78, 3), (181, .aload_n 0, 1), (182, .sipush 180, 3), (185, .newarray .int, 2), (187, .putfield 81, 3), (190, .aload_n 0, 1), (191, .sipush 420, 3), (194, .newarray .int, 2), (196, .putfield 84, 3), (199, .aload_n 0, 1), (200, .bipush 17, 2), (202, .newarray .int, 2), (204, .putfield 87, 3), (207, .aload_n 0, 1), (208, .bipush 16, 2), (210, .newarray .int, 2), (212, .putfield 90, 3), (215, .aload_n 0, 1), (216, .iconst 4, 1), (217, .newarray .int, 2), (219, .putfield 93, 3), (222, .aload_n 0, 1), (223, .bipush 7, 2), (225, .newarray .int, 2), (227, .putfield 96, 3), (230, .aload_n 0, 1), (231, .bipush 6, 2), (233, .newarray .int, 2), (235, .putfield 99, 3)]
set_option maxRecDepth 100000 in
theorem dX11_init_157_g : dX11_init_157_l.all (fun x => decide (decode cX11_init x.1 = .ok x.2)) = true := by decide +kernel
theorem dX11_init_157 : decode cX11_init 157 = .ok (.aload_n 0, 1) := nq_d dX11_init_157_g (n := 0) rfl
theorem dX11_init_158 : decode cX11_init 158 = .ok (.bipush 24, 2) := nq_d dX11_init_157_g (n := 1) rfl
theorem dX11_init_160 : decode cX11_init 160 = .ok (.newarray .boolean, 2) := nq_d dX11_init_157_g (n := 2) rfl
theorem dX11_init_162 : decode cX11_init 162 = .ok (.putfield 71, 3) := nq_d dX11_init_157_g (n := 3) rfl
theorem dX11_init_165 : decode cX11_init 165 = .ok (.aload_n 0, 1) := nq_d dX11_init_157_g (n := 4) rfl
theorem dX11_init_166 : decode cX11_init 166 = .ok (.bipush 60, 2) := nq_d dX11_init_157_g (n := 5) rfl
theorem dX11_init_168 : decode cX11_init 168 = .ok (.newarray .int, 2) := nq_d dX11_init_157_g (n := 6) rfl
theorem dX11_init_170 : decode cX11_init 170 = .ok (.putfield 75, 3) := nq_d dX11_init_157_g (n := 7) rfl
theorem dX11_init_173 : decode cX11_init 173 = .ok (.aload_n 0, 1) := nq_d dX11_init_157_g (n := 8) rfl
theorem dX11_init_174 : decode cX11_init 174 = .ok (.bipush 60, 2) := nq_d dX11_init_157_g (n := 9) rfl
theorem dX11_init_176 : decode cX11_init 176 = .ok (.newarray .int, 2) := nq_d dX11_init_157_g (n := 10) rfl
theorem dX11_init_178 : decode cX11_init 178 = .ok (.putfield 78, 3) := nq_d dX11_init_157_g (n := 11) rfl
theorem dX11_init_181 : decode cX11_init 181 = .ok (.aload_n 0, 1) := nq_d dX11_init_157_g (n := 12) rfl
theorem dX11_init_182 : decode cX11_init 182 = .ok (.sipush 180, 3) := nq_d dX11_init_157_g (n := 13) rfl
theorem dX11_init_185 : decode cX11_init 185 = .ok (.newarray .int, 2) := nq_d dX11_init_157_g (n := 14) rfl
theorem dX11_init_187 : decode cX11_init 187 = .ok (.putfield 81, 3) := nq_d dX11_init_157_g (n := 15) rfl
theorem dX11_init_190 : decode cX11_init 190 = .ok (.aload_n 0, 1) := nq_d dX11_init_157_g (n := 16) rfl
theorem dX11_init_191 : decode cX11_init 191 = .ok (.sipush 420, 3) := nq_d dX11_init_157_g (n := 17) rfl
theorem dX11_init_194 : decode cX11_init 194 = .ok (.newarray .int, 2) := nq_d dX11_init_157_g (n := 18) rfl
theorem dX11_init_196 : decode cX11_init 196 = .ok (.putfield 84, 3) := nq_d dX11_init_157_g (n := 19) rfl
theorem dX11_init_199 : decode cX11_init 199 = .ok (.aload_n 0, 1) := nq_d dX11_init_157_g (n := 20) rfl
theorem dX11_init_200 : decode cX11_init 200 = .ok (.bipush 17, 2) := nq_d dX11_init_157_g (n := 21) rfl
theorem dX11_init_202 : decode cX11_init 202 = .ok (.newarray .int, 2) := nq_d dX11_init_157_g (n := 22) rfl
theorem dX11_init_204 : decode cX11_init 204 = .ok (.putfield 87, 3) := nq_d dX11_init_157_g (n := 23) rfl
theorem dX11_init_207 : decode cX11_init 207 = .ok (.aload_n 0, 1) := nq_d dX11_init_157_g (n := 24) rfl
theorem dX11_init_208 : decode cX11_init 208 = .ok (.bipush 16, 2) := nq_d dX11_init_157_g (n := 25) rfl
theorem dX11_init_210 : decode cX11_init 210 = .ok (.newarray .int, 2) := nq_d dX11_init_157_g (n := 26) rfl
theorem dX11_init_212 : decode cX11_init 212 = .ok (.putfield 90, 3) := nq_d dX11_init_157_g (n := 27) rfl
theorem dX11_init_215 : decode cX11_init 215 = .ok (.aload_n 0, 1) := nq_d dX11_init_157_g (n := 28) rfl
theorem dX11_init_216 : decode cX11_init 216 = .ok (.iconst 4, 1) := nq_d dX11_init_157_g (n := 29) rfl
theorem dX11_init_217 : decode cX11_init 217 = .ok (.newarray .int, 2) := nq_d dX11_init_157_g (n := 30) rfl
theorem dX11_init_219 : decode cX11_init 219 = .ok (.putfield 93, 3) := nq_d dX11_init_157_g (n := 31) rfl
theorem dX11_init_222 : decode cX11_init 222 = .ok (.aload_n 0, 1) := nq_d dX11_init_157_g (n := 32) rfl
theorem dX11_init_223 : decode cX11_init 223 = .ok (.bipush 7, 2) := nq_d dX11_init_157_g (n := 33) rfl
theorem dX11_init_225 : decode cX11_init 225 = .ok (.newarray .int, 2) := nq_d dX11_init_157_g (n := 34) rfl
theorem dX11_init_227 : decode cX11_init 227 = .ok (.putfield 96, 3) := nq_d dX11_init_157_g (n := 35) rfl
theorem dX11_init_230 : decode cX11_init 230 = .ok (.aload_n 0, 1) := nq_d dX11_init_157_g (n := 36) rfl
theorem dX11_init_231 : decode cX11_init 231 = .ok (.bipush 6, 2) := nq_d dX11_init_157_g (n := 37) rfl
theorem dX11_init_233 : decode cX11_init 233 = .ok (.newarray .int, 2) := nq_d dX11_init_157_g (n := 38) rfl
theorem dX11_init_235 : decode cX11_init 235 = .ok (.putfield 99, 3) := nq_d dX11_init_157_g (n := 39) rfl
noncomputable def dX11_init_238_l : List (Nat × Instr × Nat) := [(238, .aload_n 0, 1), (239, .bipush 6, 2), (241, .newarray .int, 2), (243, .putfield 102, 3), (246, .aload_n 0, 1), (247, .bipush 6, 2), (249, .newarray .int, 2), (251, .putfield 105, 3), (254, .aload_n 0, 1), (255, .bipush 64, 2), (257, .newarray .long, 2), (259, .putfield 108, 3), (262, .aload_n 0, 1), (263, .sipush 1800, 3), (266, .newarray .int, 2), (268, .putfield 112, 3), (271, .aload_n 0, 1), (272, .iconst 2, 1), (273, .newarray .boolean, 2), (275, .putfield 115, 3), (278, .aload_n 0, 1), (279, .invokevirtual 118, 3), (282, .aload_n 0, 1), (283, .invokevirtual 121, 3), (286, .iconst 0, 1), (287, .istore_n 1, 1), (288, .iload_n 1, 1), (289, .bipush 24, 2), (291, .if_icmp .ge 16, 3), (294, .aload_n 0, 1), (295, .getfield 41, 3), (298, .iload_n 1, 1), (299, .iconst (-1), 1), (300, .iastore, 1), (301, .iinc 1 1, 3), (304, .goto (-16), 3), (307, .return_, 1)]
set_option maxRecDepth 100000 in
theorem dX11_init_238_g : dX11_init_238_l.all (fun x => decide (decode cX11_init x.1 = .ok x.2)) = true := by decide +kernel
theorem dX11_init_238 : decode cX11_init 238 = .ok (.aload_n 0, 1) := nq_d dX11_init_238_g (n := 0) rfl
theorem dX11_init_239 : decode cX11_init 239 = .ok (.bipush 6, 2) := nq_d dX11_init_238_g (n := 1) rfl
theorem dX11_init_241 : decode cX11_init 241 = .ok (.newarray .int, 2) := nq_d dX11_init_238_g (n := 2) rfl
theorem dX11_init_243 : decode cX11_init 243 = .ok (.putfield 102, 3) := nq_d dX11_init_238_g (n := 3) rfl
theorem dX11_init_246 : decode cX11_init 246 = .ok (.aload_n 0, 1) := nq_d dX11_init_238_g (n := 4) rfl
theorem dX11_init_247 : decode cX11_init 247 = .ok (.bipush 6, 2) := nq_d dX11_init_238_g (n := 5) rfl
theorem dX11_init_249 : decode cX11_init 249 = .ok (.newarray .int, 2) := nq_d dX11_init_238_g (n := 6) rfl
theorem dX11_init_251 : decode cX11_init 251 = .ok (.putfield 105, 3) := nq_d dX11_init_238_g (n := 7) rfl
theorem dX11_init_254 : decode cX11_init 254 = .ok (.aload_n 0, 1) := nq_d dX11_init_238_g (n := 8) rfl
theorem dX11_init_255 : decode cX11_init 255 = .ok (.bipush 64, 2) := nq_d dX11_init_238_g (n := 9) rfl
theorem dX11_init_257 : decode cX11_init 257 = .ok (.newarray .long, 2) := nq_d dX11_init_238_g (n := 10) rfl
theorem dX11_init_259 : decode cX11_init 259 = .ok (.putfield 108, 3) := nq_d dX11_init_238_g (n := 11) rfl
theorem dX11_init_262 : decode cX11_init 262 = .ok (.aload_n 0, 1) := nq_d dX11_init_238_g (n := 12) rfl
theorem dX11_init_263 : decode cX11_init 263 = .ok (.sipush 1800, 3) := nq_d dX11_init_238_g (n := 13) rfl
theorem dX11_init_266 : decode cX11_init 266 = .ok (.newarray .int, 2) := nq_d dX11_init_238_g (n := 14) rfl
theorem dX11_init_268 : decode cX11_init 268 = .ok (.putfield 112, 3) := nq_d dX11_init_238_g (n := 15) rfl
theorem dX11_init_271 : decode cX11_init 271 = .ok (.aload_n 0, 1) := nq_d dX11_init_238_g (n := 16) rfl
theorem dX11_init_272 : decode cX11_init 272 = .ok (.iconst 2, 1) := nq_d dX11_init_238_g (n := 17) rfl
theorem dX11_init_273 : decode cX11_init 273 = .ok (.newarray .boolean, 2) := nq_d dX11_init_238_g (n := 18) rfl
theorem dX11_init_275 : decode cX11_init 275 = .ok (.putfield 115, 3) := nq_d dX11_init_238_g (n := 19) rfl
theorem dX11_init_278 : decode cX11_init 278 = .ok (.aload_n 0, 1) := nq_d dX11_init_238_g (n := 20) rfl
theorem dX11_init_279 : decode cX11_init 279 = .ok (.invokevirtual 118, 3) := nq_d dX11_init_238_g (n := 21) rfl
theorem dX11_init_282 : decode cX11_init 282 = .ok (.aload_n 0, 1) := nq_d dX11_init_238_g (n := 22) rfl
theorem dX11_init_283 : decode cX11_init 283 = .ok (.invokevirtual 121, 3) := nq_d dX11_init_238_g (n := 23) rfl
theorem dX11_init_286 : decode cX11_init 286 = .ok (.iconst 0, 1) := nq_d dX11_init_238_g (n := 24) rfl
theorem dX11_init_287 : decode cX11_init 287 = .ok (.istore_n 1, 1) := nq_d dX11_init_238_g (n := 25) rfl
theorem dX11_init_288 : decode cX11_init 288 = .ok (.iload_n 1, 1) := nq_d dX11_init_238_g (n := 26) rfl
theorem dX11_init_289 : decode cX11_init 289 = .ok (.bipush 24, 2) := nq_d dX11_init_238_g (n := 27) rfl
theorem dX11_init_291 : decode cX11_init 291 = .ok (.if_icmp .ge 16, 3) := nq_d dX11_init_238_g (n := 28) rfl
theorem dX11_init_294 : decode cX11_init 294 = .ok (.aload_n 0, 1) := nq_d dX11_init_238_g (n := 29) rfl
theorem dX11_init_295 : decode cX11_init 295 = .ok (.getfield 41, 3) := nq_d dX11_init_238_g (n := 30) rfl
theorem dX11_init_298 : decode cX11_init 298 = .ok (.iload_n 1, 1) := nq_d dX11_init_238_g (n := 31) rfl
theorem dX11_init_299 : decode cX11_init 299 = .ok (.iconst (-1), 1) := nq_d dX11_init_238_g (n := 32) rfl
theorem dX11_init_300 : decode cX11_init 300 = .ok (.iastore, 1) := nq_d dX11_init_238_g (n := 33) rfl
theorem dX11_init_301 : decode cX11_init 301 = .ok (.iinc 1 1, 3) := nq_d dX11_init_238_g (n := 34) rfl
theorem dX11_init_304 : decode cX11_init 304 = .ok (.goto (-16), 3) := nq_d dX11_init_238_g (n := 35) rfl
theorem dX11_init_307 : decode cX11_init 307 = .ok (.return_, 1) := nq_d dX11_init_238_g (n := 36) rfl
noncomputable def dX11_in_0_l : List (Nat × Instr × Nat) := [(0, .lload_n 0, 1), (1, .lload_n 2, 1), (2, .lcmp, 1), (3, .ifCond .lt 14, 3), (6, .lload_n 0, 1), (7, .lload 4, 2), (9, .lcmp, 1), (10, .ifCond .gt 7, 3), (13, .iconst 1, 1), (14, .goto 4, 3), (17, .iconst 0, 1), (18, .ireturn, 1)]
set_option maxRecDepth 100000 in
theorem dX11_in_0_g : dX11_in_0_l.all (fun x => decide (decode cX11_in x.1 = .ok x.2)) = true := by decide +kernel
theorem dX11_in_0 : decode cX11_in 0 = .ok (.lload_n 0, 1) := nq_d dX11_in_0_g (n := 0) rfl
theorem dX11_in_1 : decode cX11_in 1 = .ok (.lload_n 2, 1) := nq_d dX11_in_0_g (n := 1) rfl
theorem dX11_in_2 : decode cX11_in 2 = .ok (.lcmp, 1) := nq_d dX11_in_0_g (n := 2) rfl
theorem dX11_in_3 : decode cX11_in 3 = .ok (.ifCond .lt 14, 3) := nq_d dX11_in_0_g (n := 3) rfl
theorem dX11_in_6 : decode cX11_in 6 = .ok (.lload_n 0, 1) := nq_d dX11_in_0_g (n := 4) rfl
theorem dX11_in_7 : decode cX11_in 7 = .ok (.lload 4, 2) := nq_d dX11_in_0_g (n := 5) rfl
theorem dX11_in_9 : decode cX11_in 9 = .ok (.lcmp, 1) := nq_d dX11_in_0_g (n := 6) rfl
theorem dX11_in_10 : decode cX11_in 10 = .ok (.ifCond .gt 7, 3) := nq_d dX11_in_0_g (n := 7) rfl
theorem dX11_in_13 : decode cX11_in 13 = .ok (.iconst 1, 1) := nq_d dX11_in_0_g (n := 8) rfl
theorem dX11_in_14 : decode cX11_in 14 = .ok (.goto 4, 3) := nq_d dX11_in_0_g (n := 9) rfl
theorem dX11_in_17 : decode cX11_in 17 = .ok (.iconst 0, 1) := nq_d dX11_in_0_g (n := 10) rfl
theorem dX11_in_18 : decode cX11_in 18 = .ok (.ireturn, 1) := nq_d dX11_in_0_g (n := 11) rfl
noncomputable def dX11_bits_0_l : List (Nat × Instr × Nat) := [(0, .iconst 0, 1), (1, .istore_n 1, 1), (2, .iconst 0, 1), (3, .istore_n 2, 1), (4, .iload_n 2, 1), (5, .bipush 16, 2), (7, .if_icmp .ge 17, 3), (10, .iload_n 1, 1), (11, .iload_n 0, 1), (12, .iload_n 2, 1), (13, .ishr, 1), (14, .iconst 1, 1), (15, .iand, 1), (16, .iadd, 1), (17, .istore_n 1, 1), (18, .iinc 2 1, 3), (21, .goto (-17), 3), (24, .iload_n 1, 1), (25, .ireturn, 1)]
set_option maxRecDepth 100000 in
theorem dX11_bits_0_g : dX11_bits_0_l.all (fun x => decide (decode cX11_bits x.1 = .ok x.2)) = true := by decide +kernel
theorem dX11_bits_0 : decode cX11_bits 0 = .ok (.iconst 0, 1) := nq_d dX11_bits_0_g (n := 0) rfl
theorem dX11_bits_1 : decode cX11_bits 1 = .ok (.istore_n 1, 1) := nq_d dX11_bits_0_g (n := 1) rfl
theorem dX11_bits_2 : decode cX11_bits 2 = .ok (.iconst 0, 1) := nq_d dX11_bits_0_g (n := 2) rfl
theorem dX11_bits_3 : decode cX11_bits 3 = .ok (.istore_n 2, 1) := nq_d dX11_bits_0_g (n := 3) rfl
theorem dX11_bits_4 : decode cX11_bits 4 = .ok (.iload_n 2, 1) := nq_d dX11_bits_0_g (n := 4) rfl
theorem dX11_bits_5 : decode cX11_bits 5 = .ok (.bipush 16, 2) := nq_d dX11_bits_0_g (n := 5) rfl
theorem dX11_bits_7 : decode cX11_bits 7 = .ok (.if_icmp .ge 17, 3) := nq_d dX11_bits_0_g (n := 6) rfl
theorem dX11_bits_10 : decode cX11_bits 10 = .ok (.iload_n 1, 1) := nq_d dX11_bits_0_g (n := 7) rfl
theorem dX11_bits_11 : decode cX11_bits 11 = .ok (.iload_n 0, 1) := nq_d dX11_bits_0_g (n := 8) rfl
theorem dX11_bits_12 : decode cX11_bits 12 = .ok (.iload_n 2, 1) := nq_d dX11_bits_0_g (n := 9) rfl
theorem dX11_bits_13 : decode cX11_bits 13 = .ok (.ishr, 1) := nq_d dX11_bits_0_g (n := 10) rfl
theorem dX11_bits_14 : decode cX11_bits 14 = .ok (.iconst 1, 1) := nq_d dX11_bits_0_g (n := 11) rfl
theorem dX11_bits_15 : decode cX11_bits 15 = .ok (.iand, 1) := nq_d dX11_bits_0_g (n := 12) rfl
theorem dX11_bits_16 : decode cX11_bits 16 = .ok (.iadd, 1) := nq_d dX11_bits_0_g (n := 13) rfl
theorem dX11_bits_17 : decode cX11_bits 17 = .ok (.istore_n 1, 1) := nq_d dX11_bits_0_g (n := 14) rfl
theorem dX11_bits_18 : decode cX11_bits 18 = .ok (.iinc 2 1, 3) := nq_d dX11_bits_0_g (n := 15) rfl
theorem dX11_bits_21 : decode cX11_bits 21 = .ok (.goto (-17), 3) := nq_d dX11_bits_0_g (n := 16) rfl
theorem dX11_bits_24 : decode cX11_bits 24 = .ok (.iload_n 1, 1) := nq_d dX11_bits_0_g (n := 17) rfl
theorem dX11_bits_25 : decode cX11_bits 25 = .ok (.ireturn, 1) := nq_d dX11_bits_0_g (n := 18) rfl
set_option maxRecDepth 100000 in
theorem ggX11_feed_X11_in : GoodIn wsX11_feed wsX11_in := goodIn_sub (sub_c (nq_m (n := 8) rfl) sub_n) (by decide +kernel)
set_option maxRecDepth 100000 in
theorem gX11_feed_X11_in : GoodIn wsX11_feed (va_wsS RX11 126 yX11_in wsX11_in) := goodIn_app (goodIn_sub (sub_c (nq_m (n := 5) rfl) (sub_c (nq_m (n := 6) rfl) (sub_c (nq_m (n := 7) rfl) sub_n))) (by decide +kernel)) ggX11_feed_X11_in
noncomputable def dX11_feed_0_l : List (Nat × Instr × Nat) := [(0, .iload_n 1, 1), (1, .i2l, 1), (2, .lconst 1, 1), (3, .ldc2_w 124, 3), (6, .invokestatic 126, 3), (9, .ifCond .ne 7, 3), (12, .sipush (-1002), 3), (15, .ireturn, 1), (16, .aload_n 0, 1), (17, .getfield 130, 3), (20, .iload_n 1, 1), (21, .iadd, 1), (22, .sipush 240, 3), (25, .if_icmp .le 7, 3), (28, .sipush (-1004), 3), (31, .ireturn, 1), (32, .iload_n 1, 1), (33, .iconst 1, 1), (34, .isub, 1), (35, .istore 4, 2), (37, .iload 4, 2), (39, .ifCond .lt 40, 3), (42, .aload_n 0, 1), (43, .getfield 22, 3), (46, .aload_n 0, 1), (47, .getfield 130, 3), (50, .lload_n 2, 1), (51, .bipush 8, 2), (53, .iload 4, 2), (55, .imul, 1), (56, .lshr, 1), (57, .ldc2_w 133, 3), (60, .land, 1), (61, .l2i, 1), (62, .iastore, 1), (63, .aload_n 0, 1), (64, .dup, 1), (65, .getfield 130, 3), (68, .iconst 1, 1), (69, .iadd, 1)]
set_option maxRecDepth 100000 in
theorem dX11_feed_0_g : dX11_feed_0_l.all (fun x => decide (decode cX11_feed x.1 = .ok x.2)) = true := by decide +kernel
theorem dX11_feed_0 : decode cX11_feed 0 = .ok (.iload_n 1, 1) := nq_d dX11_feed_0_g (n := 0) rfl
theorem dX11_feed_1 : decode cX11_feed 1 = .ok (.i2l, 1) := nq_d dX11_feed_0_g (n := 1) rfl
theorem dX11_feed_2 : decode cX11_feed 2 = .ok (.lconst 1, 1) := nq_d dX11_feed_0_g (n := 2) rfl
theorem dX11_feed_3 : decode cX11_feed 3 = .ok (.ldc2_w 124, 3) := nq_d dX11_feed_0_g (n := 3) rfl
theorem dX11_feed_6 : decode cX11_feed 6 = .ok (.invokestatic 126, 3) := nq_d dX11_feed_0_g (n := 4) rfl
theorem dX11_feed_9 : decode cX11_feed 9 = .ok (.ifCond .ne 7, 3) := nq_d dX11_feed_0_g (n := 5) rfl
theorem dX11_feed_12 : decode cX11_feed 12 = .ok (.sipush (-1002), 3) := nq_d dX11_feed_0_g (n := 6) rfl
theorem dX11_feed_15 : decode cX11_feed 15 = .ok (.ireturn, 1) := nq_d dX11_feed_0_g (n := 7) rfl
theorem dX11_feed_16 : decode cX11_feed 16 = .ok (.aload_n 0, 1) := nq_d dX11_feed_0_g (n := 8) rfl
theorem dX11_feed_17 : decode cX11_feed 17 = .ok (.getfield 130, 3) := nq_d dX11_feed_0_g (n := 9) rfl
theorem dX11_feed_20 : decode cX11_feed 20 = .ok (.iload_n 1, 1) := nq_d dX11_feed_0_g (n := 10) rfl
theorem dX11_feed_21 : decode cX11_feed 21 = .ok (.iadd, 1) := nq_d dX11_feed_0_g (n := 11) rfl
theorem dX11_feed_22 : decode cX11_feed 22 = .ok (.sipush 240, 3) := nq_d dX11_feed_0_g (n := 12) rfl
theorem dX11_feed_25 : decode cX11_feed 25 = .ok (.if_icmp .le 7, 3) := nq_d dX11_feed_0_g (n := 13) rfl
theorem dX11_feed_28 : decode cX11_feed 28 = .ok (.sipush (-1004), 3) := nq_d dX11_feed_0_g (n := 14) rfl
theorem dX11_feed_31 : decode cX11_feed 31 = .ok (.ireturn, 1) := nq_d dX11_feed_0_g (n := 15) rfl
theorem dX11_feed_32 : decode cX11_feed 32 = .ok (.iload_n 1, 1) := nq_d dX11_feed_0_g (n := 16) rfl
theorem dX11_feed_33 : decode cX11_feed 33 = .ok (.iconst 1, 1) := nq_d dX11_feed_0_g (n := 17) rfl
theorem dX11_feed_34 : decode cX11_feed 34 = .ok (.isub, 1) := nq_d dX11_feed_0_g (n := 18) rfl
theorem dX11_feed_35 : decode cX11_feed 35 = .ok (.istore 4, 2) := nq_d dX11_feed_0_g (n := 19) rfl
theorem dX11_feed_37 : decode cX11_feed 37 = .ok (.iload 4, 2) := nq_d dX11_feed_0_g (n := 20) rfl
theorem dX11_feed_39 : decode cX11_feed 39 = .ok (.ifCond .lt 40, 3) := nq_d dX11_feed_0_g (n := 21) rfl
theorem dX11_feed_42 : decode cX11_feed 42 = .ok (.aload_n 0, 1) := nq_d dX11_feed_0_g (n := 22) rfl
theorem dX11_feed_43 : decode cX11_feed 43 = .ok (.getfield 22, 3) := nq_d dX11_feed_0_g (n := 23) rfl
theorem dX11_feed_46 : decode cX11_feed 46 = .ok (.aload_n 0, 1) := nq_d dX11_feed_0_g (n := 24) rfl
theorem dX11_feed_47 : decode cX11_feed 47 = .ok (.getfield 130, 3) := nq_d dX11_feed_0_g (n := 25) rfl
theorem dX11_feed_50 : decode cX11_feed 50 = .ok (.lload_n 2, 1) := nq_d dX11_feed_0_g (n := 26) rfl
theorem dX11_feed_51 : decode cX11_feed 51 = .ok (.bipush 8, 2) := nq_d dX11_feed_0_g (n := 27) rfl
theorem dX11_feed_53 : decode cX11_feed 53 = .ok (.iload 4, 2) := nq_d dX11_feed_0_g (n := 28) rfl
theorem dX11_feed_55 : decode cX11_feed 55 = .ok (.imul, 1) := nq_d dX11_feed_0_g (n := 29) rfl
theorem dX11_feed_56 : decode cX11_feed 56 = .ok (.lshr, 1) := nq_d dX11_feed_0_g (n := 30) rfl
theorem dX11_feed_57 : decode cX11_feed 57 = .ok (.ldc2_w 133, 3) := nq_d dX11_feed_0_g (n := 31) rfl
theorem dX11_feed_60 : decode cX11_feed 60 = .ok (.land, 1) := nq_d dX11_feed_0_g (n := 32) rfl
theorem dX11_feed_61 : decode cX11_feed 61 = .ok (.l2i, 1) := nq_d dX11_feed_0_g (n := 33) rfl
theorem dX11_feed_62 : decode cX11_feed 62 = .ok (.iastore, 1) := nq_d dX11_feed_0_g (n := 34) rfl
theorem dX11_feed_63 : decode cX11_feed 63 = .ok (.aload_n 0, 1) := nq_d dX11_feed_0_g (n := 35) rfl
theorem dX11_feed_64 : decode cX11_feed 64 = .ok (.dup, 1) := nq_d dX11_feed_0_g (n := 36) rfl
theorem dX11_feed_65 : decode cX11_feed 65 = .ok (.getfield 130, 3) := nq_d dX11_feed_0_g (n := 37) rfl
theorem dX11_feed_68 : decode cX11_feed 68 = .ok (.iconst 1, 1) := nq_d dX11_feed_0_g (n := 38) rfl
theorem dX11_feed_69 : decode cX11_feed 69 = .ok (.iadd, 1) := nq_d dX11_feed_0_g (n := 39) rfl
noncomputable def dX11_feed_70_l : List (Nat × Instr × Nat) := [(70, .putfield 130, 3), (73, .iinc 4 (-1), 3), (76, .goto (-39), 3), (79, .aload_n 0, 1), (80, .getfield 130, 3), (83, .ireturn, 1)]
set_option maxRecDepth 100000 in
theorem dX11_feed_70_g : dX11_feed_70_l.all (fun x => decide (decode cX11_feed x.1 = .ok x.2)) = true := by decide +kernel
theorem dX11_feed_70 : decode cX11_feed 70 = .ok (.putfield 130, 3) := nq_d dX11_feed_70_g (n := 0) rfl
theorem dX11_feed_73 : decode cX11_feed 73 = .ok (.iinc 4 (-1), 3) := nq_d dX11_feed_70_g (n := 1) rfl
theorem dX11_feed_76 : decode cX11_feed 76 = .ok (.goto (-39), 3) := nq_d dX11_feed_70_g (n := 2) rfl
theorem dX11_feed_79 : decode cX11_feed 79 = .ok (.aload_n 0, 1) := nq_d dX11_feed_70_g (n := 3) rfl
theorem dX11_feed_80 : decode cX11_feed 80 = .ok (.getfield 130, 3) := nq_d dX11_feed_70_g (n := 4) rfl
theorem dX11_feed_83 : decode cX11_feed 83 = .ok (.ireturn, 1) := nq_d dX11_feed_70_g (n := 5) rfl
noncomputable def dX11_here_0_l : List (Nat × Instr × Nat) := [(0, .aload_n 0, 1), (1, .getfield 135, 3), (4, .aload_n 0, 1), (5, .getfield 130, 3), (8, .if_icmp .ge 30, 3), (11, .aload_n 0, 1), (12, .getfield 22, 3), (15, .aload_n 0, 1), (16, .getfield 135, 3), (19, .iaload, 1), (20, .bipush 32, 2), (22, .if_icmp .ne 16, 3), (25, .aload_n 0, 1), (26, .dup, 1), (27, .getfield 135, 3), (30, .iconst 1, 1), (31, .iadd, 1), (32, .putfield 135, 3), (35, .goto (-35), 3), (38, .aload_n 0, 1), (39, .getfield 135, 3), (42, .aload_n 0, 1), (43, .getfield 130, 3), (46, .if_icmp .ge 15, 3), (49, .aload_n 0, 1), (50, .getfield 22, 3), (53, .aload_n 0, 1), (54, .getfield 135, 3), (57, .iaload, 1), (58, .goto 4, 3), (61, .iconst (-1), 1), (62, .ireturn, 1)]
set_option maxRecDepth 100000 in
theorem dX11_here_0_g : dX11_here_0_l.all (fun x => decide (decode cX11_here x.1 = .ok x.2)) = true := by decide +kernel
theorem dX11_here_0 : decode cX11_here 0 = .ok (.aload_n 0, 1) := nq_d dX11_here_0_g (n := 0) rfl
theorem dX11_here_1 : decode cX11_here 1 = .ok (.getfield 135, 3) := nq_d dX11_here_0_g (n := 1) rfl
theorem dX11_here_4 : decode cX11_here 4 = .ok (.aload_n 0, 1) := nq_d dX11_here_0_g (n := 2) rfl
theorem dX11_here_5 : decode cX11_here 5 = .ok (.getfield 130, 3) := nq_d dX11_here_0_g (n := 3) rfl
theorem dX11_here_8 : decode cX11_here 8 = .ok (.if_icmp .ge 30, 3) := nq_d dX11_here_0_g (n := 4) rfl
theorem dX11_here_11 : decode cX11_here 11 = .ok (.aload_n 0, 1) := nq_d dX11_here_0_g (n := 5) rfl
theorem dX11_here_12 : decode cX11_here 12 = .ok (.getfield 22, 3) := nq_d dX11_here_0_g (n := 6) rfl
theorem dX11_here_15 : decode cX11_here 15 = .ok (.aload_n 0, 1) := nq_d dX11_here_0_g (n := 7) rfl
theorem dX11_here_16 : decode cX11_here 16 = .ok (.getfield 135, 3) := nq_d dX11_here_0_g (n := 8) rfl
theorem dX11_here_19 : decode cX11_here 19 = .ok (.iaload, 1) := nq_d dX11_here_0_g (n := 9) rfl
theorem dX11_here_20 : decode cX11_here 20 = .ok (.bipush 32, 2) := nq_d dX11_here_0_g (n := 10) rfl
theorem dX11_here_22 : decode cX11_here 22 = .ok (.if_icmp .ne 16, 3) := nq_d dX11_here_0_g (n := 11) rfl
theorem dX11_here_25 : decode cX11_here 25 = .ok (.aload_n 0, 1) := nq_d dX11_here_0_g (n := 12) rfl
theorem dX11_here_26 : decode cX11_here 26 = .ok (.dup, 1) := nq_d dX11_here_0_g (n := 13) rfl
theorem dX11_here_27 : decode cX11_here 27 = .ok (.getfield 135, 3) := nq_d dX11_here_0_g (n := 14) rfl
theorem dX11_here_30 : decode cX11_here 30 = .ok (.iconst 1, 1) := nq_d dX11_here_0_g (n := 15) rfl
theorem dX11_here_31 : decode cX11_here 31 = .ok (.iadd, 1) := nq_d dX11_here_0_g (n := 16) rfl
theorem dX11_here_32 : decode cX11_here 32 = .ok (.putfield 135, 3) := nq_d dX11_here_0_g (n := 17) rfl
theorem dX11_here_35 : decode cX11_here 35 = .ok (.goto (-35), 3) := nq_d dX11_here_0_g (n := 18) rfl
theorem dX11_here_38 : decode cX11_here 38 = .ok (.aload_n 0, 1) := nq_d dX11_here_0_g (n := 19) rfl
theorem dX11_here_39 : decode cX11_here 39 = .ok (.getfield 135, 3) := nq_d dX11_here_0_g (n := 20) rfl
theorem dX11_here_42 : decode cX11_here 42 = .ok (.aload_n 0, 1) := nq_d dX11_here_0_g (n := 21) rfl
theorem dX11_here_43 : decode cX11_here 43 = .ok (.getfield 130, 3) := nq_d dX11_here_0_g (n := 22) rfl
theorem dX11_here_46 : decode cX11_here 46 = .ok (.if_icmp .ge 15, 3) := nq_d dX11_here_0_g (n := 23) rfl
theorem dX11_here_49 : decode cX11_here 49 = .ok (.aload_n 0, 1) := nq_d dX11_here_0_g (n := 24) rfl
theorem dX11_here_50 : decode cX11_here 50 = .ok (.getfield 22, 3) := nq_d dX11_here_0_g (n := 25) rfl
theorem dX11_here_53 : decode cX11_here 53 = .ok (.aload_n 0, 1) := nq_d dX11_here_0_g (n := 26) rfl
theorem dX11_here_54 : decode cX11_here 54 = .ok (.getfield 135, 3) := nq_d dX11_here_0_g (n := 27) rfl
theorem dX11_here_57 : decode cX11_here 57 = .ok (.iaload, 1) := nq_d dX11_here_0_g (n := 28) rfl
theorem dX11_here_58 : decode cX11_here 58 = .ok (.goto 4, 3) := nq_d dX11_here_0_g (n := 29) rfl
theorem dX11_here_61 : decode cX11_here 61 = .ok (.iconst (-1), 1) := nq_d dX11_here_0_g (n := 30) rfl
theorem dX11_here_62 : decode cX11_here 62 = .ok (.ireturn, 1) := nq_d dX11_here_0_g (n := 31) rfl
noncomputable def dX11_fails_0_l : List (Nat × Instr × Nat) := [(0, .aload_n 0, 1), (1, .iload_n 2, 1), (2, .putfield 25, 3), (5, .iload_n 1, 1), (6, .ireturn, 1)]
set_option maxRecDepth 100000 in
theorem dX11_fails_0_g : dX11_fails_0_l.all (fun x => decide (decode cX11_fails x.1 = .ok x.2)) = true := by decide +kernel
theorem dX11_fails_0 : decode cX11_fails 0 = .ok (.aload_n 0, 1) := nq_d dX11_fails_0_g (n := 0) rfl
theorem dX11_fails_1 : decode cX11_fails 1 = .ok (.iload_n 2, 1) := nq_d dX11_fails_0_g (n := 1) rfl
theorem dX11_fails_2 : decode cX11_fails 2 = .ok (.putfield 25, 3) := nq_d dX11_fails_0_g (n := 2) rfl
theorem dX11_fails_5 : decode cX11_fails 5 = .ok (.iload_n 1, 1) := nq_d dX11_fails_0_g (n := 3) rfl
theorem dX11_fails_6 : decode cX11_fails 6 = .ok (.ireturn, 1) := nq_d dX11_fails_0_g (n := 4) rfl
set_option maxRecDepth 100000 in
theorem ggX11_readWord_X11_here : GoodIn wsX11_readWord wsX11_here := goodIn_sub (sub_c (nq_m (n := 16) rfl) (sub_c (nq_m (n := 2) rfl) (sub_c (nq_m (n := 4) rfl) (sub_c (nq_m (n := 5) rfl) (sub_c (nq_m (n := 20) rfl) (sub_c (nq_m (n := 21) rfl) (sub_c (nq_m (n := 22) rfl) (sub_c (nq_m (n := 23) rfl) (sub_c (nq_m (n := 24) rfl) (sub_c (nq_m (n := 25) rfl) (sub_c (nq_m (n := 26) rfl) (sub_c (nq_m (n := 27) rfl) (sub_c (nq_m (n := 28) rfl) (sub_c (nq_m (n := 29) rfl) (sub_c (nq_m (n := 30) rfl) (sub_c (nq_m (n := 31) rfl) (sub_c (nq_m (n := 32) rfl) (sub_c (nq_m (n := 33) rfl) (sub_c (nq_m (n := 34) rfl) (sub_c (nq_m (n := 35) rfl) (sub_c (nq_m (n := 36) rfl) (sub_c (nq_m (n := 37) rfl) (sub_c (nq_m (n := 38) rfl) (sub_c (nq_m (n := 39) rfl) (sub_c (nq_m (n := 40) rfl) (sub_c (nq_m (n := 41) rfl) (sub_c (nq_m (n := 42) rfl) (sub_c (nq_m (n := 43) rfl) (sub_c (nq_m (n := 44) rfl) (sub_c (nq_m (n := 45) rfl) (sub_c (nq_m (n := 46) rfl) (sub_c (nq_m (n := 47) rfl) (sub_c (nq_m (n := 48) rfl) (sub_c (nq_m (n := 49) rfl) (sub_c (nq_m (n := 50) rfl) (sub_c (nq_m (n := 51) rfl) (sub_c (nq_m (n := 52) rfl) (sub_c (nq_m (n := 53) rfl) (sub_c (nq_m (n := 54) rfl) (sub_c (nq_m (n := 55) rfl) (sub_c (nq_m (n := 56) rfl) (sub_c (nq_m (n := 57) rfl) (sub_c (nq_m (n := 58) rfl) (sub_c (nq_m (n := 59) rfl) (sub_c (nq_m (n := 60) rfl) (sub_c (nq_m (n := 61) rfl) (sub_c (nq_m (n := 62) rfl) (sub_c (nq_m (n := 63) rfl) (sub_c (nq_m (n := 64) rfl) (sub_c (nq_m (n := 65) rfl) (sub_c (nq_m (n := 66) rfl) (sub_c (nq_m (n := 67) rfl) (sub_c (nq_m (n := 68) rfl) (sub_c (nq_m (n := 69) rfl) (sub_c (nq_m (n := 70) rfl) (sub_c (nq_m (n := 71) rfl) (sub_c (nq_m (n := 72) rfl) (sub_c (nq_m (n := 73) rfl) (sub_c (nq_m (n := 74) rfl) (sub_c (nq_m (n := 75) rfl) (sub_c (nq_m (n := 76) rfl) (sub_c (nq_m (n := 77) rfl) sub_n)))))))))))))))))))))))))))))))))))))))))))))))))))))))))))))) (by decide +kernel)
set_option maxRecDepth 100000 in
theorem gX11_readWord_X11_here : GoodIn wsX11_readWord (wsV RX11 138 RX11 yX11_here wsX11_here) := goodIn_app (goodIn_sub (sub_c (nq_m (n := 12) rfl) (sub_c (nq_m (n := 13) rfl) (sub_c (nq_m (n := 14) rfl) (sub_c (nq_m (n := 15) rfl) sub_n)))) (by decide +kernel)) ggX11_readWord_X11_here
set_option maxRecDepth 100000 in
theorem ggX11_readWord_X11_in : GoodIn wsX11_readWord wsX11_in := goodIn_sub (sub_c (nq_m (n := 19) rfl) sub_n) (by decide +kernel)
set_option maxRecDepth 100000 in
theorem gX11_readWord_X11_in : GoodIn wsX11_readWord (va_wsS RX11 126 yX11_in wsX11_in) := goodIn_app (goodIn_sub (sub_c (nq_m (n := 17) rfl) (sub_c (nq_m (n := 18) rfl) (sub_c (nq_m (n := 15) rfl) sub_n))) (by decide +kernel)) ggX11_readWord_X11_in
noncomputable def dX11_readWord_0_l : List (Nat × Instr × Nat) := [(0, .aload_n 0, 1), (1, .invokevirtual 138, 3), (4, .istore_n 1, 1), (5, .aload_n 0, 1), (6, .lconst 0, 1), (7, .putfield 142, 3), (10, .aload_n 0, 1), (11, .aload_n 0, 1), (12, .getfield 135, 3), (15, .putfield 146, 3), (18, .aload_n 0, 1), (19, .getfield 146, 3), (22, .aload_n 0, 1), (23, .getfield 130, 3), (26, .if_icmp .ge 82, 3), (29, .aload_n 0, 1), (30, .getfield 22, 3), (33, .aload_n 0, 1), (34, .getfield 146, 3), (37, .iaload, 1), (38, .i2l, 1), (39, .ldc2_w 149, 3), (42, .ldc2_w 151, 3), (45, .invokestatic 126, 3), (48, .ifCond .eq 60, 3), (51, .aload_n 0, 1), (52, .aload_n 0, 1), (53, .getfield 142, 3), (56, .ldc2_w 153, 3), (59, .lcmp, 1), (60, .ifCond .le 9, 3), (63, .ldc2_w 155, 3), (66, .goto 26, 3), (69, .ldc2_w 157, 3), (72, .aload_n 0, 1), (73, .getfield 142, 3), (76, .lmul, 1), (77, .aload_n 0, 1), (78, .getfield 22, 3), (81, .aload_n 0, 1)]
set_option maxRecDepth 100000 in
theorem dX11_readWord_0_g : dX11_readWord_0_l.all (fun x => decide (decode cX11_readWord x.1 = .ok x.2)) = true := by decide +kernel
theorem dX11_readWord_0 : decode cX11_readWord 0 = .ok (.aload_n 0, 1) := nq_d dX11_readWord_0_g (n := 0) rfl
theorem dX11_readWord_1 : decode cX11_readWord 1 = .ok (.invokevirtual 138, 3) := nq_d dX11_readWord_0_g (n := 1) rfl
theorem dX11_readWord_4 : decode cX11_readWord 4 = .ok (.istore_n 1, 1) := nq_d dX11_readWord_0_g (n := 2) rfl
theorem dX11_readWord_5 : decode cX11_readWord 5 = .ok (.aload_n 0, 1) := nq_d dX11_readWord_0_g (n := 3) rfl
theorem dX11_readWord_6 : decode cX11_readWord 6 = .ok (.lconst 0, 1) := nq_d dX11_readWord_0_g (n := 4) rfl
theorem dX11_readWord_7 : decode cX11_readWord 7 = .ok (.putfield 142, 3) := nq_d dX11_readWord_0_g (n := 5) rfl
theorem dX11_readWord_10 : decode cX11_readWord 10 = .ok (.aload_n 0, 1) := nq_d dX11_readWord_0_g (n := 6) rfl
theorem dX11_readWord_11 : decode cX11_readWord 11 = .ok (.aload_n 0, 1) := nq_d dX11_readWord_0_g (n := 7) rfl
theorem dX11_readWord_12 : decode cX11_readWord 12 = .ok (.getfield 135, 3) := nq_d dX11_readWord_0_g (n := 8) rfl
theorem dX11_readWord_15 : decode cX11_readWord 15 = .ok (.putfield 146, 3) := nq_d dX11_readWord_0_g (n := 9) rfl
theorem dX11_readWord_18 : decode cX11_readWord 18 = .ok (.aload_n 0, 1) := nq_d dX11_readWord_0_g (n := 10) rfl
theorem dX11_readWord_19 : decode cX11_readWord 19 = .ok (.getfield 146, 3) := nq_d dX11_readWord_0_g (n := 11) rfl
theorem dX11_readWord_22 : decode cX11_readWord 22 = .ok (.aload_n 0, 1) := nq_d dX11_readWord_0_g (n := 12) rfl
theorem dX11_readWord_23 : decode cX11_readWord 23 = .ok (.getfield 130, 3) := nq_d dX11_readWord_0_g (n := 13) rfl
theorem dX11_readWord_26 : decode cX11_readWord 26 = .ok (.if_icmp .ge 82, 3) := nq_d dX11_readWord_0_g (n := 14) rfl
theorem dX11_readWord_29 : decode cX11_readWord 29 = .ok (.aload_n 0, 1) := nq_d dX11_readWord_0_g (n := 15) rfl
theorem dX11_readWord_30 : decode cX11_readWord 30 = .ok (.getfield 22, 3) := nq_d dX11_readWord_0_g (n := 16) rfl
theorem dX11_readWord_33 : decode cX11_readWord 33 = .ok (.aload_n 0, 1) := nq_d dX11_readWord_0_g (n := 17) rfl
theorem dX11_readWord_34 : decode cX11_readWord 34 = .ok (.getfield 146, 3) := nq_d dX11_readWord_0_g (n := 18) rfl
theorem dX11_readWord_37 : decode cX11_readWord 37 = .ok (.iaload, 1) := nq_d dX11_readWord_0_g (n := 19) rfl
theorem dX11_readWord_38 : decode cX11_readWord 38 = .ok (.i2l, 1) := nq_d dX11_readWord_0_g (n := 20) rfl
theorem dX11_readWord_39 : decode cX11_readWord 39 = .ok (.ldc2_w 149, 3) := nq_d dX11_readWord_0_g (n := 21) rfl
theorem dX11_readWord_42 : decode cX11_readWord 42 = .ok (.ldc2_w 151, 3) := nq_d dX11_readWord_0_g (n := 22) rfl
theorem dX11_readWord_45 : decode cX11_readWord 45 = .ok (.invokestatic 126, 3) := nq_d dX11_readWord_0_g (n := 23) rfl
theorem dX11_readWord_48 : decode cX11_readWord 48 = .ok (.ifCond .eq 60, 3) := nq_d dX11_readWord_0_g (n := 24) rfl
theorem dX11_readWord_51 : decode cX11_readWord 51 = .ok (.aload_n 0, 1) := nq_d dX11_readWord_0_g (n := 25) rfl
theorem dX11_readWord_52 : decode cX11_readWord 52 = .ok (.aload_n 0, 1) := nq_d dX11_readWord_0_g (n := 26) rfl
theorem dX11_readWord_53 : decode cX11_readWord 53 = .ok (.getfield 142, 3) := nq_d dX11_readWord_0_g (n := 27) rfl
theorem dX11_readWord_56 : decode cX11_readWord 56 = .ok (.ldc2_w 153, 3) := nq_d dX11_readWord_0_g (n := 28) rfl
theorem dX11_readWord_59 : decode cX11_readWord 59 = .ok (.lcmp, 1) := nq_d dX11_readWord_0_g (n := 29) rfl
theorem dX11_readWord_60 : decode cX11_readWord 60 = .ok (.ifCond .le 9, 3) := nq_d dX11_readWord_0_g (n := 30) rfl
theorem dX11_readWord_63 : decode cX11_readWord 63 = .ok (.ldc2_w 155, 3) := nq_d dX11_readWord_0_g (n := 31) rfl
theorem dX11_readWord_66 : decode cX11_readWord 66 = .ok (.goto 26, 3) := nq_d dX11_readWord_0_g (n := 32) rfl
theorem dX11_readWord_69 : decode cX11_readWord 69 = .ok (.ldc2_w 157, 3) := nq_d dX11_readWord_0_g (n := 33) rfl
theorem dX11_readWord_72 : decode cX11_readWord 72 = .ok (.aload_n 0, 1) := nq_d dX11_readWord_0_g (n := 34) rfl
theorem dX11_readWord_73 : decode cX11_readWord 73 = .ok (.getfield 142, 3) := nq_d dX11_readWord_0_g (n := 35) rfl
theorem dX11_readWord_76 : decode cX11_readWord 76 = .ok (.lmul, 1) := nq_d dX11_readWord_0_g (n := 36) rfl
theorem dX11_readWord_77 : decode cX11_readWord 77 = .ok (.aload_n 0, 1) := nq_d dX11_readWord_0_g (n := 37) rfl
theorem dX11_readWord_78 : decode cX11_readWord 78 = .ok (.getfield 22, 3) := nq_d dX11_readWord_0_g (n := 38) rfl
theorem dX11_readWord_81 : decode cX11_readWord 81 = .ok (.aload_n 0, 1) := nq_d dX11_readWord_0_g (n := 39) rfl
noncomputable def dX11_readWord_82_l : List (Nat × Instr × Nat) := [(82, .getfield 146, 3), (85, .iaload, 1), (86, .i2l, 1), (87, .ladd, 1), (88, .ldc2_w 159, 3), (91, .lsub, 1), (92, .putfield 142, 3), (95, .aload_n 0, 1), (96, .dup, 1), (97, .getfield 146, 3), (100, .iconst 1, 1), (101, .iadd, 1), (102, .putfield 146, 3), (105, .goto (-87), 3), (108, .return_, 1)]
set_option maxRecDepth 100000 in
theorem dX11_readWord_82_g : dX11_readWord_82_l.all (fun x => decide (decode cX11_readWord x.1 = .ok x.2)) = true := by decide +kernel
theorem dX11_readWord_82 : decode cX11_readWord 82 = .ok (.getfield 146, 3) := nq_d dX11_readWord_82_g (n := 0) rfl
theorem dX11_readWord_85 : decode cX11_readWord 85 = .ok (.iaload, 1) := nq_d dX11_readWord_82_g (n := 1) rfl
theorem dX11_readWord_86 : decode cX11_readWord 86 = .ok (.i2l, 1) := nq_d dX11_readWord_82_g (n := 2) rfl
theorem dX11_readWord_87 : decode cX11_readWord 87 = .ok (.ladd, 1) := nq_d dX11_readWord_82_g (n := 3) rfl
theorem dX11_readWord_88 : decode cX11_readWord 88 = .ok (.ldc2_w 159, 3) := nq_d dX11_readWord_82_g (n := 4) rfl
theorem dX11_readWord_91 : decode cX11_readWord 91 = .ok (.lsub, 1) := nq_d dX11_readWord_82_g (n := 5) rfl
theorem dX11_readWord_92 : decode cX11_readWord 92 = .ok (.putfield 142, 3) := nq_d dX11_readWord_82_g (n := 6) rfl
theorem dX11_readWord_95 : decode cX11_readWord 95 = .ok (.aload_n 0, 1) := nq_d dX11_readWord_82_g (n := 7) rfl
theorem dX11_readWord_96 : decode cX11_readWord 96 = .ok (.dup, 1) := nq_d dX11_readWord_82_g (n := 8) rfl
theorem dX11_readWord_97 : decode cX11_readWord 97 = .ok (.getfield 146, 3) := nq_d dX11_readWord_82_g (n := 9) rfl
theorem dX11_readWord_100 : decode cX11_readWord 100 = .ok (.iconst 1, 1) := nq_d dX11_readWord_82_g (n := 10) rfl
theorem dX11_readWord_101 : decode cX11_readWord 101 = .ok (.iadd, 1) := nq_d dX11_readWord_82_g (n := 11) rfl
theorem dX11_readWord_102 : decode cX11_readWord 102 = .ok (.putfield 146, 3) := nq_d dX11_readWord_82_g (n := 12) rfl
theorem dX11_readWord_105 : decode cX11_readWord 105 = .ok (.goto (-87), 3) := nq_d dX11_readWord_82_g (n := 13) rfl
theorem dX11_readWord_108 : decode cX11_readWord 108 = .ok (.return_, 1) := nq_d dX11_readWord_82_g (n := 14) rfl
noncomputable def dX11_code_0_l : List (Nat × Instr × Nat) := [(0, .ldc2_w 157, 3), (3, .ldc2_w 157, 3), (6, .iload_n 0, 1), (7, .i2l, 1), (8, .ldc2_w 159, 3), (11, .lsub, 1), (12, .lmul, 1), (13, .iload_n 1, 1), (14, .i2l, 1), (15, .ladd, 1), (16, .ldc2_w 159, 3), (19, .lsub, 1), (20, .lmul, 1), (21, .iload_n 2, 1), (22, .i2l, 1), (23, .ladd, 1), (24, .ldc2_w 159, 3), (27, .lsub, 1), (28, .lreturn, 1)]
set_option maxRecDepth 100000 in
theorem dX11_code_0_g : dX11_code_0_l.all (fun x => decide (decode cX11_code x.1 = .ok x.2)) = true := by decide +kernel
theorem dX11_code_0 : decode cX11_code 0 = .ok (.ldc2_w 157, 3) := nq_d dX11_code_0_g (n := 0) rfl
theorem dX11_code_3 : decode cX11_code 3 = .ok (.ldc2_w 157, 3) := nq_d dX11_code_0_g (n := 1) rfl
theorem dX11_code_6 : decode cX11_code 6 = .ok (.iload_n 0, 1) := nq_d dX11_code_0_g (n := 2) rfl
theorem dX11_code_7 : decode cX11_code 7 = .ok (.i2l, 1) := nq_d dX11_code_0_g (n := 3) rfl
theorem dX11_code_8 : decode cX11_code 8 = .ok (.ldc2_w 159, 3) := nq_d dX11_code_0_g (n := 4) rfl
theorem dX11_code_11 : decode cX11_code 11 = .ok (.lsub, 1) := nq_d dX11_code_0_g (n := 5) rfl
theorem dX11_code_12 : decode cX11_code 12 = .ok (.lmul, 1) := nq_d dX11_code_0_g (n := 6) rfl
theorem dX11_code_13 : decode cX11_code 13 = .ok (.iload_n 1, 1) := nq_d dX11_code_0_g (n := 7) rfl
theorem dX11_code_14 : decode cX11_code 14 = .ok (.i2l, 1) := nq_d dX11_code_0_g (n := 8) rfl
theorem dX11_code_15 : decode cX11_code 15 = .ok (.ladd, 1) := nq_d dX11_code_0_g (n := 9) rfl
theorem dX11_code_16 : decode cX11_code 16 = .ok (.ldc2_w 159, 3) := nq_d dX11_code_0_g (n := 10) rfl
theorem dX11_code_19 : decode cX11_code 19 = .ok (.lsub, 1) := nq_d dX11_code_0_g (n := 11) rfl
theorem dX11_code_20 : decode cX11_code 20 = .ok (.lmul, 1) := nq_d dX11_code_0_g (n := 12) rfl
theorem dX11_code_21 : decode cX11_code 21 = .ok (.iload_n 2, 1) := nq_d dX11_code_0_g (n := 13) rfl
theorem dX11_code_22 : decode cX11_code 22 = .ok (.i2l, 1) := nq_d dX11_code_0_g (n := 14) rfl
theorem dX11_code_23 : decode cX11_code 23 = .ok (.ladd, 1) := nq_d dX11_code_0_g (n := 15) rfl
theorem dX11_code_24 : decode cX11_code 24 = .ok (.ldc2_w 159, 3) := nq_d dX11_code_0_g (n := 16) rfl
theorem dX11_code_27 : decode cX11_code 27 = .ok (.lsub, 1) := nq_d dX11_code_0_g (n := 17) rfl
theorem dX11_code_28 : decode cX11_code 28 = .ok (.lreturn, 1) := nq_d dX11_code_0_g (n := 18) rfl
noncomputable def dX11_longer_0_l : List (Nat × Instr × Nat) := [(0, .ldc2_w 157, 3), (3, .lload_n 0, 1), (4, .lmul, 1), (5, .iload_n 2, 1), (6, .i2l, 1), (7, .ladd, 1), (8, .ldc2_w 159, 3), (11, .lsub, 1), (12, .lreturn, 1)]
set_option maxRecDepth 100000 in
theorem dX11_longer_0_g : dX11_longer_0_l.all (fun x => decide (decode cX11_longer x.1 = .ok x.2)) = true := by decide +kernel
theorem dX11_longer_0 : decode cX11_longer 0 = .ok (.ldc2_w 157, 3) := nq_d dX11_longer_0_g (n := 0) rfl
theorem dX11_longer_3 : decode cX11_longer 3 = .ok (.lload_n 0, 1) := nq_d dX11_longer_0_g (n := 1) rfl
theorem dX11_longer_4 : decode cX11_longer 4 = .ok (.lmul, 1) := nq_d dX11_longer_0_g (n := 2) rfl
theorem dX11_longer_5 : decode cX11_longer 5 = .ok (.iload_n 2, 1) := nq_d dX11_longer_0_g (n := 3) rfl
theorem dX11_longer_6 : decode cX11_longer 6 = .ok (.i2l, 1) := nq_d dX11_longer_0_g (n := 4) rfl
theorem dX11_longer_7 : decode cX11_longer 7 = .ok (.ladd, 1) := nq_d dX11_longer_0_g (n := 5) rfl
theorem dX11_longer_8 : decode cX11_longer 8 = .ok (.ldc2_w 159, 3) := nq_d dX11_longer_0_g (n := 6) rfl
theorem dX11_longer_11 : decode cX11_longer 11 = .ok (.lsub, 1) := nq_d dX11_longer_0_g (n := 7) rfl
theorem dX11_longer_12 : decode cX11_longer 12 = .ok (.lreturn, 1) := nq_d dX11_longer_0_g (n := 8) rfl
set_option maxRecDepth 100000 in
theorem ggX11_clauseOf_X11_code : GoodIn wsX11_clauseOf wsX11_code := goodIn_sub (sub_c (nq_m (n := 5) rfl) (sub_c (nq_m (n := 6) rfl) (sub_c (nq_m (n := 7) rfl) sub_n))) (by decide +kernel)
set_option maxRecDepth 100000 in
theorem gX11_clauseOf_X11_code : GoodIn wsX11_clauseOf (va_wsS RX11 161 yX11_code wsX11_code) := goodIn_app (goodIn_sub (sub_c (nq_m (n := 2) rfl) (sub_c (nq_m (n := 3) rfl) (sub_c (nq_m (n := 4) rfl) sub_n))) (by decide +kernel)) ggX11_clauseOf_X11_code
set_option maxRecDepth 100000 in
theorem ggX11_clauseOf_X11_longer : GoodIn wsX11_clauseOf wsX11_longer := goodIn_sub (sub_c (nq_m (n := 10) rfl) (sub_c (nq_m (n := 6) rfl) (sub_c (nq_m (n := 7) rfl) sub_n))) (by decide +kernel)
set_option maxRecDepth 100000 in
theorem gX11_clauseOf_X11_longer : GoodIn wsX11_clauseOf (va_wsS RX11 165 yX11_longer wsX11_longer) := goodIn_app (goodIn_sub (sub_c (nq_m (n := 8) rfl) (sub_c (nq_m (n := 9) rfl) (sub_c (nq_m (n := 4) rfl) sub_n))) (by decide +kernel)) ggX11_clauseOf_X11_longer
noncomputable def dX11_clauseOf_0_l : List (Nat × Instr × Nat) := [(0, .bipush 119, 2), (2, .bipush 101, 2), (4, .bipush 105, 2), (6, .invokestatic 161, 3), (9, .bipush 103, 2), (11, .invokestatic 165, 3), (14, .bipush 104, 2), (16, .invokestatic 165, 3), (19, .bipush 116, 2), (21, .invokestatic 165, 3), (24, .bipush 115, 2), (26, .invokestatic 165, 3), (29, .lstore_n 1, 1), (30, .aload_n 0, 1), (31, .getfield 142, 3), (34, .bipush 114, 2), (36, .bipush 111, 2), (38, .bipush 119, 2), (40, .invokestatic 161, 3), (43, .lcmp, 1), (44, .ifCond .ne 7, 3), (47, .iconst 0, 1), (48, .goto 95, 3), (51, .aload_n 0, 1), (52, .getfield 142, 3), (55, .bipush 111, 2), (57, .bipush 100, 2), (59, .bipush 100, 2), (61, .invokestatic 161, 3), (64, .bipush 115, 2), (66, .invokestatic 165, 3), (69, .lcmp, 1), (70, .ifCond .ne 7, 3), (73, .iconst 1, 1), (74, .goto 69, 3), (77, .aload_n 0, 1), (78, .getfield 142, 3), (81, .lload_n 1, 1), (82, .lcmp, 1), (83, .ifCond .ne 7, 3)]
set_option maxRecDepth 100000 in
theorem dX11_clauseOf_0_g : dX11_clauseOf_0_l.all (fun x => decide (decode cX11_clauseOf x.1 = .ok x.2)) = true := by decide +kernel
theorem dX11_clauseOf_0 : decode cX11_clauseOf 0 = .ok (.bipush 119, 2) := nq_d dX11_clauseOf_0_g (n := 0) rfl
theorem dX11_clauseOf_2 : decode cX11_clauseOf 2 = .ok (.bipush 101, 2) := nq_d dX11_clauseOf_0_g (n := 1) rfl
theorem dX11_clauseOf_4 : decode cX11_clauseOf 4 = .ok (.bipush 105, 2) := nq_d dX11_clauseOf_0_g (n := 2) rfl
theorem dX11_clauseOf_6 : decode cX11_clauseOf 6 = .ok (.invokestatic 161, 3) := nq_d dX11_clauseOf_0_g (n := 3) rfl
theorem dX11_clauseOf_9 : decode cX11_clauseOf 9 = .ok (.bipush 103, 2) := nq_d dX11_clauseOf_0_g (n := 4) rfl
theorem dX11_clauseOf_11 : decode cX11_clauseOf 11 = .ok (.invokestatic 165, 3) := nq_d dX11_clauseOf_0_g (n := 5) rfl
theorem dX11_clauseOf_14 : decode cX11_clauseOf 14 = .ok (.bipush 104, 2) := nq_d dX11_clauseOf_0_g (n := 6) rfl
theorem dX11_clauseOf_16 : decode cX11_clauseOf 16 = .ok (.invokestatic 165, 3) := nq_d dX11_clauseOf_0_g (n := 7) rfl
theorem dX11_clauseOf_19 : decode cX11_clauseOf 19 = .ok (.bipush 116, 2) := nq_d dX11_clauseOf_0_g (n := 8) rfl
theorem dX11_clauseOf_21 : decode cX11_clauseOf 21 = .ok (.invokestatic 165, 3) := nq_d dX11_clauseOf_0_g (n := 9) rfl
theorem dX11_clauseOf_24 : decode cX11_clauseOf 24 = .ok (.bipush 115, 2) := nq_d dX11_clauseOf_0_g (n := 10) rfl
theorem dX11_clauseOf_26 : decode cX11_clauseOf 26 = .ok (.invokestatic 165, 3) := nq_d dX11_clauseOf_0_g (n := 11) rfl
theorem dX11_clauseOf_29 : decode cX11_clauseOf 29 = .ok (.lstore_n 1, 1) := nq_d dX11_clauseOf_0_g (n := 12) rfl
theorem dX11_clauseOf_30 : decode cX11_clauseOf 30 = .ok (.aload_n 0, 1) := nq_d dX11_clauseOf_0_g (n := 13) rfl
theorem dX11_clauseOf_31 : decode cX11_clauseOf 31 = .ok (.getfield 142, 3) := nq_d dX11_clauseOf_0_g (n := 14) rfl
theorem dX11_clauseOf_34 : decode cX11_clauseOf 34 = .ok (.bipush 114, 2) := nq_d dX11_clauseOf_0_g (n := 15) rfl
theorem dX11_clauseOf_36 : decode cX11_clauseOf 36 = .ok (.bipush 111, 2) := nq_d dX11_clauseOf_0_g (n := 16) rfl
theorem dX11_clauseOf_38 : decode cX11_clauseOf 38 = .ok (.bipush 119, 2) := nq_d dX11_clauseOf_0_g (n := 17) rfl
theorem dX11_clauseOf_40 : decode cX11_clauseOf 40 = .ok (.invokestatic 161, 3) := nq_d dX11_clauseOf_0_g (n := 18) rfl
theorem dX11_clauseOf_43 : decode cX11_clauseOf 43 = .ok (.lcmp, 1) := nq_d dX11_clauseOf_0_g (n := 19) rfl
theorem dX11_clauseOf_44 : decode cX11_clauseOf 44 = .ok (.ifCond .ne 7, 3) := nq_d dX11_clauseOf_0_g (n := 20) rfl
theorem dX11_clauseOf_47 : decode cX11_clauseOf 47 = .ok (.iconst 0, 1) := nq_d dX11_clauseOf_0_g (n := 21) rfl
theorem dX11_clauseOf_48 : decode cX11_clauseOf 48 = .ok (.goto 95, 3) := nq_d dX11_clauseOf_0_g (n := 22) rfl
theorem dX11_clauseOf_51 : decode cX11_clauseOf 51 = .ok (.aload_n 0, 1) := nq_d dX11_clauseOf_0_g (n := 23) rfl
theorem dX11_clauseOf_52 : decode cX11_clauseOf 52 = .ok (.getfield 142, 3) := nq_d dX11_clauseOf_0_g (n := 24) rfl
theorem dX11_clauseOf_55 : decode cX11_clauseOf 55 = .ok (.bipush 111, 2) := nq_d dX11_clauseOf_0_g (n := 25) rfl
theorem dX11_clauseOf_57 : decode cX11_clauseOf 57 = .ok (.bipush 100, 2) := nq_d dX11_clauseOf_0_g (n := 26) rfl
theorem dX11_clauseOf_59 : decode cX11_clauseOf 59 = .ok (.bipush 100, 2) := nq_d dX11_clauseOf_0_g (n := 27) rfl
theorem dX11_clauseOf_61 : decode cX11_clauseOf 61 = .ok (.invokestatic 161, 3) := nq_d dX11_clauseOf_0_g (n := 28) rfl
theorem dX11_clauseOf_64 : decode cX11_clauseOf 64 = .ok (.bipush 115, 2) := nq_d dX11_clauseOf_0_g (n := 29) rfl
theorem dX11_clauseOf_66 : decode cX11_clauseOf 66 = .ok (.invokestatic 165, 3) := nq_d dX11_clauseOf_0_g (n := 30) rfl
theorem dX11_clauseOf_69 : decode cX11_clauseOf 69 = .ok (.lcmp, 1) := nq_d dX11_clauseOf_0_g (n := 31) rfl
theorem dX11_clauseOf_70 : decode cX11_clauseOf 70 = .ok (.ifCond .ne 7, 3) := nq_d dX11_clauseOf_0_g (n := 32) rfl
theorem dX11_clauseOf_73 : decode cX11_clauseOf 73 = .ok (.iconst 1, 1) := nq_d dX11_clauseOf_0_g (n := 33) rfl
theorem dX11_clauseOf_74 : decode cX11_clauseOf 74 = .ok (.goto 69, 3) := nq_d dX11_clauseOf_0_g (n := 34) rfl
theorem dX11_clauseOf_77 : decode cX11_clauseOf 77 = .ok (.aload_n 0, 1) := nq_d dX11_clauseOf_0_g (n := 35) rfl
theorem dX11_clauseOf_78 : decode cX11_clauseOf 78 = .ok (.getfield 142, 3) := nq_d dX11_clauseOf_0_g (n := 36) rfl
theorem dX11_clauseOf_81 : decode cX11_clauseOf 81 = .ok (.lload_n 1, 1) := nq_d dX11_clauseOf_0_g (n := 37) rfl
theorem dX11_clauseOf_82 : decode cX11_clauseOf 82 = .ok (.lcmp, 1) := nq_d dX11_clauseOf_0_g (n := 38) rfl
theorem dX11_clauseOf_83 : decode cX11_clauseOf 83 = .ok (.ifCond .ne 7, 3) := nq_d dX11_clauseOf_0_g (n := 39) rfl
noncomputable def dX11_clauseOf_86_l : List (Nat × Instr × Nat) := [(86, .iconst 2, 1), (87, .goto 56, 3), (90, .aload_n 0, 1), (91, .getfield 142, 3), (94, .bipush 103, 2), (96, .bipush 105, 2), (98, .bipush 118, 2), (100, .invokestatic 161, 3), (103, .bipush 101, 2), (105, .invokestatic 165, 3), (108, .lcmp, 1), (109, .ifCond .ne 7, 3), (112, .iconst 3, 1), (113, .goto 30, 3), (116, .aload_n 0, 1), (117, .getfield 142, 3), (120, .bipush 108, 2), (122, .bipush 101, 2), (124, .bipush 115, 2), (126, .invokestatic 161, 3), (129, .bipush 115, 2), (131, .invokestatic 165, 3), (134, .lcmp, 1), (135, .ifCond .ne 7, 3), (138, .iconst 4, 1), (139, .goto 4, 3), (142, .iconst (-1), 1), (143, .ireturn, 1)]
set_option maxRecDepth 100000 in
theorem dX11_clauseOf_86_g : dX11_clauseOf_86_l.all (fun x => decide (decode cX11_clauseOf x.1 = .ok x.2)) = true := by decide +kernel
theorem dX11_clauseOf_86 : decode cX11_clauseOf 86 = .ok (.iconst 2, 1) := nq_d dX11_clauseOf_86_g (n := 0) rfl
theorem dX11_clauseOf_87 : decode cX11_clauseOf 87 = .ok (.goto 56, 3) := nq_d dX11_clauseOf_86_g (n := 1) rfl
theorem dX11_clauseOf_90 : decode cX11_clauseOf 90 = .ok (.aload_n 0, 1) := nq_d dX11_clauseOf_86_g (n := 2) rfl
theorem dX11_clauseOf_91 : decode cX11_clauseOf 91 = .ok (.getfield 142, 3) := nq_d dX11_clauseOf_86_g (n := 3) rfl
theorem dX11_clauseOf_94 : decode cX11_clauseOf 94 = .ok (.bipush 103, 2) := nq_d dX11_clauseOf_86_g (n := 4) rfl
theorem dX11_clauseOf_96 : decode cX11_clauseOf 96 = .ok (.bipush 105, 2) := nq_d dX11_clauseOf_86_g (n := 5) rfl
theorem dX11_clauseOf_98 : decode cX11_clauseOf 98 = .ok (.bipush 118, 2) := nq_d dX11_clauseOf_86_g (n := 6) rfl
theorem dX11_clauseOf_100 : decode cX11_clauseOf 100 = .ok (.invokestatic 161, 3) := nq_d dX11_clauseOf_86_g (n := 7) rfl
theorem dX11_clauseOf_103 : decode cX11_clauseOf 103 = .ok (.bipush 101, 2) := nq_d dX11_clauseOf_86_g (n := 8) rfl
theorem dX11_clauseOf_105 : decode cX11_clauseOf 105 = .ok (.invokestatic 165, 3) := nq_d dX11_clauseOf_86_g (n := 9) rfl
theorem dX11_clauseOf_108 : decode cX11_clauseOf 108 = .ok (.lcmp, 1) := nq_d dX11_clauseOf_86_g (n := 10) rfl
theorem dX11_clauseOf_109 : decode cX11_clauseOf 109 = .ok (.ifCond .ne 7, 3) := nq_d dX11_clauseOf_86_g (n := 11) rfl
theorem dX11_clauseOf_112 : decode cX11_clauseOf 112 = .ok (.iconst 3, 1) := nq_d dX11_clauseOf_86_g (n := 12) rfl
theorem dX11_clauseOf_113 : decode cX11_clauseOf 113 = .ok (.goto 30, 3) := nq_d dX11_clauseOf_86_g (n := 13) rfl
theorem dX11_clauseOf_116 : decode cX11_clauseOf 116 = .ok (.aload_n 0, 1) := nq_d dX11_clauseOf_86_g (n := 14) rfl
theorem dX11_clauseOf_117 : decode cX11_clauseOf 117 = .ok (.getfield 142, 3) := nq_d dX11_clauseOf_86_g (n := 15) rfl
theorem dX11_clauseOf_120 : decode cX11_clauseOf 120 = .ok (.bipush 108, 2) := nq_d dX11_clauseOf_86_g (n := 16) rfl
theorem dX11_clauseOf_122 : decode cX11_clauseOf 122 = .ok (.bipush 101, 2) := nq_d dX11_clauseOf_86_g (n := 17) rfl
theorem dX11_clauseOf_124 : decode cX11_clauseOf 124 = .ok (.bipush 115, 2) := nq_d dX11_clauseOf_86_g (n := 18) rfl
theorem dX11_clauseOf_126 : decode cX11_clauseOf 126 = .ok (.invokestatic 161, 3) := nq_d dX11_clauseOf_86_g (n := 19) rfl
theorem dX11_clauseOf_129 : decode cX11_clauseOf 129 = .ok (.bipush 115, 2) := nq_d dX11_clauseOf_86_g (n := 20) rfl
theorem dX11_clauseOf_131 : decode cX11_clauseOf 131 = .ok (.invokestatic 165, 3) := nq_d dX11_clauseOf_86_g (n := 21) rfl
theorem dX11_clauseOf_134 : decode cX11_clauseOf 134 = .ok (.lcmp, 1) := nq_d dX11_clauseOf_86_g (n := 22) rfl
theorem dX11_clauseOf_135 : decode cX11_clauseOf 135 = .ok (.ifCond .ne 7, 3) := nq_d dX11_clauseOf_86_g (n := 23) rfl
theorem dX11_clauseOf_138 : decode cX11_clauseOf 138 = .ok (.iconst 4, 1) := nq_d dX11_clauseOf_86_g (n := 24) rfl
theorem dX11_clauseOf_139 : decode cX11_clauseOf 139 = .ok (.goto 4, 3) := nq_d dX11_clauseOf_86_g (n := 25) rfl
theorem dX11_clauseOf_142 : decode cX11_clauseOf 142 = .ok (.iconst (-1), 1) := nq_d dX11_clauseOf_86_g (n := 26) rfl
theorem dX11_clauseOf_143 : decode cX11_clauseOf 143 = .ok (.ireturn, 1) := nq_d dX11_clauseOf_86_g (n := 27) rfl
set_option maxRecDepth 100000 in
theorem ggX11_needs_X11_readWord : GoodIn wsX11_needs wsX11_readWord := goodIn_sub (sub_c (nq_m (n := 8) rfl) (sub_c (nq_m (n := 1) rfl) (sub_c (nq_m (n := 2) rfl) (sub_c (nq_m (n := 3) rfl) (sub_c (nq_m (n := 9) rfl) (sub_c (nq_m (n := 10) rfl) (sub_c (nq_m (n := 11) rfl) (sub_c (nq_m (n := 12) rfl) (sub_c (nq_m (n := 13) rfl) (sub_c (nq_m (n := 14) rfl) (sub_c (nq_m (n := 15) rfl) (sub_c (nq_m (n := 16) rfl) (sub_c (nq_m (n := 17) rfl) (sub_c (nq_m (n := 18) rfl) (sub_c (nq_m (n := 19) rfl) (sub_c (nq_m (n := 7) rfl) (sub_c (nq_m (n := 20) rfl) (sub_c (nq_m (n := 21) rfl) (sub_c (nq_m (n := 22) rfl) (sub_c (nq_m (n := 23) rfl) (sub_c (nq_m (n := 29) rfl) (sub_c (nq_m (n := 30) rfl) (sub_c (nq_m (n := 31) rfl) (sub_c (nq_m (n := 32) rfl) (sub_c (nq_m (n := 33) rfl) (sub_c (nq_m (n := 34) rfl) (sub_c (nq_m (n := 35) rfl) (sub_c (nq_m (n := 36) rfl) (sub_c (nq_m (n := 37) rfl) (sub_c (nq_m (n := 38) rfl) (sub_c (nq_m (n := 39) rfl) (sub_c (nq_m (n := 40) rfl) (sub_c (nq_m (n := 41) rfl) (sub_c (nq_m (n := 42) rfl) (sub_c (nq_m (n := 43) rfl) (sub_c (nq_m (n := 44) rfl) (sub_c (nq_m (n := 45) rfl) (sub_c (nq_m (n := 46) rfl) (sub_c (nq_m (n := 47) rfl) (sub_c (nq_m (n := 48) rfl) (sub_c (nq_m (n := 49) rfl) (sub_c (nq_m (n := 50) rfl) (sub_c (nq_m (n := 51) rfl) (sub_c (nq_m (n := 52) rfl) (sub_c (nq_m (n := 53) rfl) (sub_c (nq_m (n := 54) rfl) (sub_c (nq_m (n := 55) rfl) (sub_c (nq_m (n := 56) rfl) (sub_c (nq_m (n := 57) rfl) (sub_c (nq_m (n := 58) rfl) (sub_c (nq_m (n := 59) rfl) (sub_c (nq_m (n := 60) rfl) (sub_c (nq_m (n := 61) rfl) (sub_c (nq_m (n := 62) rfl) (sub_c (nq_m (n := 63) rfl) (sub_c (nq_m (n := 64) rfl) (sub_c (nq_m (n := 65) rfl) (sub_c (nq_m (n := 66) rfl) (sub_c (nq_m (n := 67) rfl) (sub_c (nq_m (n := 68) rfl) (sub_c (nq_m (n := 69) rfl) (sub_c (nq_m (n := 70) rfl) (sub_c (nq_m (n := 71) rfl) (sub_c (nq_m (n := 72) rfl) (sub_c (nq_m (n := 73) rfl) (sub_c (nq_m (n := 74) rfl) (sub_c (nq_m (n := 75) rfl) (sub_c (nq_m (n := 76) rfl) (sub_c (nq_m (n := 77) rfl) (sub_c (nq_m (n := 78) rfl) (sub_c (nq_m (n := 79) rfl) (sub_c (nq_m (n := 80) rfl) (sub_c (nq_m (n := 81) rfl) (sub_c (nq_m (n := 82) rfl) (sub_c (nq_m (n := 83) rfl) (sub_c (nq_m (n := 84) rfl) (sub_c (nq_m (n := 85) rfl) (sub_c (nq_m (n := 86) rfl) sub_n)))))))))))))))))))))))))))))))))))))))))))))))))))))))))))))))))))))))))))))) (by decide +kernel)
set_option maxRecDepth 100000 in
theorem gX11_needs_X11_readWord : GoodIn wsX11_needs (wsV RX11 169 RX11 yX11_readWord wsX11_readWord) := goodIn_app (goodIn_sub (sub_c (nq_m (n := 4) rfl) (sub_c (nq_m (n := 5) rfl) (sub_c (nq_m (n := 6) rfl) (sub_c (nq_m (n := 7) rfl) sub_n)))) (by decide +kernel)) ggX11_needs_X11_readWord
set_option maxRecDepth 100000 in
theorem ggX11_needs_X11_fails : GoodIn wsX11_needs wsX11_fails := goodIn_sub (sub_c (nq_m (n := 27) rfl) (sub_c (nq_m (n := 28) rfl) (sub_c (nq_m (n := 29) rfl) (sub_c (nq_m (n := 30) rfl) (sub_c (nq_m (n := 31) rfl) (sub_c (nq_m (n := 32) rfl) (sub_c (nq_m (n := 33) rfl) (sub_c (nq_m (n := 34) rfl) (sub_c (nq_m (n := 35) rfl) (sub_c (nq_m (n := 36) rfl) (sub_c (nq_m (n := 37) rfl) (sub_c (nq_m (n := 38) rfl) (sub_c (nq_m (n := 39) rfl) (sub_c (nq_m (n := 40) rfl) (sub_c (nq_m (n := 41) rfl) (sub_c (nq_m (n := 42) rfl) (sub_c (nq_m (n := 43) rfl) (sub_c (nq_m (n := 44) rfl) (sub_c (nq_m (n := 45) rfl) (sub_c (nq_m (n := 46) rfl) (sub_c (nq_m (n := 47) rfl) (sub_c (nq_m (n := 48) rfl) (sub_c (nq_m (n := 49) rfl) (sub_c (nq_m (n := 50) rfl) (sub_c (nq_m (n := 51) rfl) (sub_c (nq_m (n := 52) rfl) (sub_c (nq_m (n := 53) rfl) (sub_c (nq_m (n := 54) rfl) (sub_c (nq_m (n := 55) rfl) (sub_c (nq_m (n := 56) rfl) (sub_c (nq_m (n := 57) rfl) (sub_c (nq_m (n := 58) rfl) (sub_c (nq_m (n := 59) rfl) (sub_c (nq_m (n := 60) rfl) (sub_c (nq_m (n := 61) rfl) (sub_c (nq_m (n := 62) rfl) (sub_c (nq_m (n := 63) rfl) (sub_c (nq_m (n := 64) rfl) (sub_c (nq_m (n := 65) rfl) (sub_c (nq_m (n := 66) rfl) (sub_c (nq_m (n := 67) rfl) (sub_c (nq_m (n := 68) rfl) (sub_c (nq_m (n := 69) rfl) (sub_c (nq_m (n := 70) rfl) (sub_c (nq_m (n := 71) rfl) (sub_c (nq_m (n := 72) rfl) (sub_c (nq_m (n := 73) rfl) (sub_c (nq_m (n := 74) rfl) (sub_c (nq_m (n := 75) rfl) (sub_c (nq_m (n := 76) rfl) (sub_c (nq_m (n := 77) rfl) (sub_c (nq_m (n := 78) rfl) (sub_c (nq_m (n := 79) rfl) (sub_c (nq_m (n := 80) rfl) (sub_c (nq_m (n := 81) rfl) (sub_c (nq_m (n := 82) rfl) (sub_c (nq_m (n := 83) rfl) (sub_c (nq_m (n := 84) rfl) (sub_c (nq_m (n := 85) rfl) (sub_c (nq_m (n := 86) rfl) sub_n)))))))))))))))))))))))))))))))))))))))))))))))))))))))))))) (by decide +kernel)
set_option maxRecDepth 100000 in
theorem gX11_needs_X11_fails : GoodIn wsX11_needs (wsV RX11 172 RX11 yX11_fails wsX11_fails) := goodIn_app (goodIn_sub (sub_c (nq_m (n := 24) rfl) (sub_c (nq_m (n := 25) rfl) (sub_c (nq_m (n := 26) rfl) (sub_c (nq_m (n := 7) rfl) sub_n)))) (by decide +kernel)) ggX11_needs_X11_fails
noncomputable def dX11_needs_0_l : List (Nat × Instr × Nat) := [(0, .aload_n 0, 1), (1, .invokevirtual 169, 3), (4, .aload_n 0, 1), (5, .getfield 142, 3), (8, .lload_n 1, 1), (9, .lcmp, 1), (10, .ifCond .eq 13, 3), (13, .aload_n 0, 1), (14, .iconst 1, 1), (15, .aload_n 0, 1), (16, .getfield 135, 3), (19, .invokevirtual 172, 3), (22, .ireturn, 1), (23, .aload_n 0, 1), (24, .aload_n 0, 1), (25, .getfield 146, 3), (28, .putfield 135, 3), (31, .iconst 0, 1), (32, .ireturn, 1)]
set_option maxRecDepth 100000 in
theorem dX11_needs_0_g : dX11_needs_0_l.all (fun x => decide (decode cX11_needs x.1 = .ok x.2)) = true := by decide +kernel
theorem dX11_needs_0 : decode cX11_needs 0 = .ok (.aload_n 0, 1) := nq_d dX11_needs_0_g (n := 0) rfl
theorem dX11_needs_1 : decode cX11_needs 1 = .ok (.invokevirtual 169, 3) := nq_d dX11_needs_0_g (n := 1) rfl
theorem dX11_needs_4 : decode cX11_needs 4 = .ok (.aload_n 0, 1) := nq_d dX11_needs_0_g (n := 2) rfl
theorem dX11_needs_5 : decode cX11_needs 5 = .ok (.getfield 142, 3) := nq_d dX11_needs_0_g (n := 3) rfl
theorem dX11_needs_8 : decode cX11_needs 8 = .ok (.lload_n 1, 1) := nq_d dX11_needs_0_g (n := 4) rfl
theorem dX11_needs_9 : decode cX11_needs 9 = .ok (.lcmp, 1) := nq_d dX11_needs_0_g (n := 5) rfl
theorem dX11_needs_10 : decode cX11_needs 10 = .ok (.ifCond .eq 13, 3) := nq_d dX11_needs_0_g (n := 6) rfl
theorem dX11_needs_13 : decode cX11_needs 13 = .ok (.aload_n 0, 1) := nq_d dX11_needs_0_g (n := 7) rfl
theorem dX11_needs_14 : decode cX11_needs 14 = .ok (.iconst 1, 1) := nq_d dX11_needs_0_g (n := 8) rfl
theorem dX11_needs_15 : decode cX11_needs 15 = .ok (.aload_n 0, 1) := nq_d dX11_needs_0_g (n := 9) rfl
theorem dX11_needs_16 : decode cX11_needs 16 = .ok (.getfield 135, 3) := nq_d dX11_needs_0_g (n := 10) rfl
theorem dX11_needs_19 : decode cX11_needs 19 = .ok (.invokevirtual 172, 3) := nq_d dX11_needs_0_g (n := 11) rfl
theorem dX11_needs_22 : decode cX11_needs 22 = .ok (.ireturn, 1) := nq_d dX11_needs_0_g (n := 12) rfl
theorem dX11_needs_23 : decode cX11_needs 23 = .ok (.aload_n 0, 1) := nq_d dX11_needs_0_g (n := 13) rfl
theorem dX11_needs_24 : decode cX11_needs 24 = .ok (.aload_n 0, 1) := nq_d dX11_needs_0_g (n := 14) rfl
theorem dX11_needs_25 : decode cX11_needs 25 = .ok (.getfield 146, 3) := nq_d dX11_needs_0_g (n := 15) rfl
theorem dX11_needs_28 : decode cX11_needs 28 = .ok (.putfield 135, 3) := nq_d dX11_needs_0_g (n := 16) rfl
theorem dX11_needs_31 : decode cX11_needs 31 = .ok (.iconst 0, 1) := nq_d dX11_needs_0_g (n := 17) rfl
theorem dX11_needs_32 : decode cX11_needs 32 = .ok (.ireturn, 1) := nq_d dX11_needs_0_g (n := 18) rfl
set_option maxRecDepth 100000 in
theorem ggX11_takeNumber_X11_here : GoodIn wsX11_takeNumber wsX11_here := goodIn_sub (sub_c (nq_m (n := 12) rfl) (sub_c (nq_m (n := 3) rfl) (sub_c (nq_m (n := 6) rfl) (sub_c (nq_m (n := 7) rfl) (sub_c (nq_m (n := 21) rfl) (sub_c (nq_m (n := 22) rfl) (sub_c (nq_m (n := 23) rfl) (sub_c (nq_m (n := 24) rfl) (sub_c (nq_m (n := 25) rfl) (sub_c (nq_m (n := 26) rfl) (sub_c (nq_m (n := 27) rfl) (sub_c (nq_m (n := 28) rfl) (sub_c (nq_m (n := 29) rfl) (sub_c (nq_m (n := 30) rfl) (sub_c (nq_m (n := 31) rfl) (sub_c (nq_m (n := 32) rfl) (sub_c (nq_m (n := 33) rfl) (sub_c (nq_m (n := 34) rfl) (sub_c (nq_m (n := 35) rfl) (sub_c (nq_m (n := 36) rfl) (sub_c (nq_m (n := 37) rfl) (sub_c (nq_m (n := 38) rfl) (sub_c (nq_m (n := 39) rfl) (sub_c (nq_m (n := 40) rfl) (sub_c (nq_m (n := 41) rfl) (sub_c (nq_m (n := 42) rfl) (sub_c (nq_m (n := 43) rfl) (sub_c (nq_m (n := 44) rfl) (sub_c (nq_m (n := 45) rfl) (sub_c (nq_m (n := 46) rfl) (sub_c (nq_m (n := 47) rfl) (sub_c (nq_m (n := 48) rfl) (sub_c (nq_m (n := 49) rfl) (sub_c (nq_m (n := 50) rfl) (sub_c (nq_m (n := 51) rfl) (sub_c (nq_m (n := 52) rfl) (sub_c (nq_m (n := 53) rfl) (sub_c (nq_m (n := 54) rfl) (sub_c (nq_m (n := 55) rfl) (sub_c (nq_m (n := 56) rfl) (sub_c (nq_m (n := 57) rfl) (sub_c (nq_m (n := 58) rfl) (sub_c (nq_m (n := 59) rfl) (sub_c (nq_m (n := 60) rfl) (sub_c (nq_m (n := 61) rfl) (sub_c (nq_m (n := 62) rfl) (sub_c (nq_m (n := 63) rfl) (sub_c (nq_m (n := 64) rfl) (sub_c (nq_m (n := 65) rfl) (sub_c (nq_m (n := 66) rfl) (sub_c (nq_m (n := 67) rfl) (sub_c (nq_m (n := 68) rfl) (sub_c (nq_m (n := 69) rfl) (sub_c (nq_m (n := 70) rfl) (sub_c (nq_m (n := 71) rfl) (sub_c (nq_m (n := 72) rfl) (sub_c (nq_m (n := 73) rfl) (sub_c (nq_m (n := 74) rfl) (sub_c (nq_m (n := 75) rfl) (sub_c (nq_m (n := 76) rfl) (sub_c (nq_m (n := 77) rfl) (sub_c (nq_m (n := 78) rfl) sub_n)))))))))))))))))))))))))))))))))))))))))))))))))))))))))))))) (by decide +kernel)
set_option maxRecDepth 100000 in
theorem gX11_takeNumber_X11_here : GoodIn wsX11_takeNumber (wsV RX11 138 RX11 yX11_here wsX11_here) := goodIn_app (goodIn_sub (sub_c (nq_m (n := 8) rfl) (sub_c (nq_m (n := 9) rfl) (sub_c (nq_m (n := 10) rfl) (sub_c (nq_m (n := 11) rfl) sub_n)))) (by decide +kernel)) ggX11_takeNumber_X11_here
set_option maxRecDepth 100000 in
theorem ggX11_takeNumber_X11_in : GoodIn wsX11_takeNumber wsX11_in := goodIn_sub (sub_c (nq_m (n := 15) rfl) sub_n) (by decide +kernel)
set_option maxRecDepth 100000 in
theorem gX11_takeNumber_X11_in : GoodIn wsX11_takeNumber (va_wsS RX11 126 yX11_in wsX11_in) := goodIn_app (goodIn_sub (sub_c (nq_m (n := 13) rfl) (sub_c (nq_m (n := 14) rfl) (sub_c (nq_m (n := 11) rfl) sub_n))) (by decide +kernel)) ggX11_takeNumber_X11_in
set_option maxRecDepth 100000 in
theorem ggX11_takeNumber_X11_fails : GoodIn wsX11_takeNumber wsX11_fails := goodIn_sub (sub_c (nq_m (n := 19) rfl) (sub_c (nq_m (n := 20) rfl) (sub_c (nq_m (n := 21) rfl) (sub_c (nq_m (n := 22) rfl) (sub_c (nq_m (n := 23) rfl) (sub_c (nq_m (n := 24) rfl) (sub_c (nq_m (n := 25) rfl) (sub_c (nq_m (n := 26) rfl) (sub_c (nq_m (n := 27) rfl) (sub_c (nq_m (n := 28) rfl) (sub_c (nq_m (n := 29) rfl) (sub_c (nq_m (n := 30) rfl) (sub_c (nq_m (n := 31) rfl) (sub_c (nq_m (n := 32) rfl) (sub_c (nq_m (n := 33) rfl) (sub_c (nq_m (n := 34) rfl) (sub_c (nq_m (n := 35) rfl) (sub_c (nq_m (n := 36) rfl) (sub_c (nq_m (n := 37) rfl) (sub_c (nq_m (n := 38) rfl) (sub_c (nq_m (n := 39) rfl) (sub_c (nq_m (n := 40) rfl) (sub_c (nq_m (n := 41) rfl) (sub_c (nq_m (n := 42) rfl) (sub_c (nq_m (n := 43) rfl) (sub_c (nq_m (n := 44) rfl) (sub_c (nq_m (n := 45) rfl) (sub_c (nq_m (n := 46) rfl) (sub_c (nq_m (n := 47) rfl) (sub_c (nq_m (n := 48) rfl) (sub_c (nq_m (n := 49) rfl) (sub_c (nq_m (n := 50) rfl) (sub_c (nq_m (n := 51) rfl) (sub_c (nq_m (n := 52) rfl) (sub_c (nq_m (n := 53) rfl) (sub_c (nq_m (n := 54) rfl) (sub_c (nq_m (n := 55) rfl) (sub_c (nq_m (n := 56) rfl) (sub_c (nq_m (n := 57) rfl) (sub_c (nq_m (n := 58) rfl) (sub_c (nq_m (n := 59) rfl) (sub_c (nq_m (n := 60) rfl) (sub_c (nq_m (n := 61) rfl) (sub_c (nq_m (n := 62) rfl) (sub_c (nq_m (n := 63) rfl) (sub_c (nq_m (n := 64) rfl) (sub_c (nq_m (n := 65) rfl) (sub_c (nq_m (n := 66) rfl) (sub_c (nq_m (n := 67) rfl) (sub_c (nq_m (n := 68) rfl) (sub_c (nq_m (n := 69) rfl) (sub_c (nq_m (n := 70) rfl) (sub_c (nq_m (n := 71) rfl) (sub_c (nq_m (n := 72) rfl) (sub_c (nq_m (n := 73) rfl) (sub_c (nq_m (n := 74) rfl) (sub_c (nq_m (n := 75) rfl) (sub_c (nq_m (n := 76) rfl) (sub_c (nq_m (n := 77) rfl) (sub_c (nq_m (n := 78) rfl) sub_n)))))))))))))))))))))))))))))))))))))))))))))))))))))))))))) (by decide +kernel)
set_option maxRecDepth 100000 in
theorem gX11_takeNumber_X11_fails : GoodIn wsX11_takeNumber (wsV RX11 172 RX11 yX11_fails wsX11_fails) := goodIn_app (goodIn_sub (sub_c (nq_m (n := 16) rfl) (sub_c (nq_m (n := 17) rfl) (sub_c (nq_m (n := 18) rfl) (sub_c (nq_m (n := 11) rfl) sub_n)))) (by decide +kernel)) ggX11_takeNumber_X11_fails
noncomputable def dX11_takeNumber_0_l : List (Nat × Instr × Nat) := [(0, .aload_n 0, 1), (1, .invokevirtual 138, 3), (4, .istore_n 3, 1), (5, .iload_n 3, 1), (6, .i2l, 1), (7, .ldc2_w 176, 3), (10, .ldc2_w 178, 3), (13, .invokestatic 126, 3), (16, .ifCond .ne 13, 3), (19, .aload_n 0, 1), (20, .iconst 1, 1), (21, .aload_n 0, 1), (22, .getfield 135, 3), (25, .invokevirtual 172, 3), (28, .ireturn, 1), (29, .aload_n 0, 1), (30, .aload_n 0, 1), (31, .getfield 135, 3), (34, .putfield 180, 3), (37, .aload_n 0, 1), (38, .iconst 0, 1), (39, .putfield 183, 3), (42, .aload_n 0, 1), (43, .getfield 135, 3), (46, .aload_n 0, 1), (47, .getfield 130, 3), (50, .if_icmp .ge 79, 3), (53, .aload_n 0, 1), (54, .getfield 22, 3), (57, .aload_n 0, 1), (58, .getfield 135, 3), (61, .iaload, 1), (62, .i2l, 1), (63, .ldc2_w 176, 3), (66, .ldc2_w 178, 3), (69, .invokestatic 126, 3), (72, .ifCond .eq 57, 3), (75, .aload_n 0, 1), (76, .aload_n 0, 1), (77, .getfield 183, 3)]
set_option maxRecDepth 100000 in
theorem dX11_takeNumber_0_g : dX11_takeNumber_0_l.all (fun x => decide (decode cX11_takeNumber x.1 = .ok x.2)) = true := by decide +kernel
theorem dX11_takeNumber_0 : decode cX11_takeNumber 0 = .ok (.aload_n 0, 1) := nq_d dX11_takeNumber_0_g (n := 0) rfl
theorem dX11_takeNumber_1 : decode cX11_takeNumber 1 = .ok (.invokevirtual 138, 3) := nq_d dX11_takeNumber_0_g (n := 1) rfl
theorem dX11_takeNumber_4 : decode cX11_takeNumber 4 = .ok (.istore_n 3, 1) := nq_d dX11_takeNumber_0_g (n := 2) rfl
theorem dX11_takeNumber_5 : decode cX11_takeNumber 5 = .ok (.iload_n 3, 1) := nq_d dX11_takeNumber_0_g (n := 3) rfl
theorem dX11_takeNumber_6 : decode cX11_takeNumber 6 = .ok (.i2l, 1) := nq_d dX11_takeNumber_0_g (n := 4) rfl
theorem dX11_takeNumber_7 : decode cX11_takeNumber 7 = .ok (.ldc2_w 176, 3) := nq_d dX11_takeNumber_0_g (n := 5) rfl
theorem dX11_takeNumber_10 : decode cX11_takeNumber 10 = .ok (.ldc2_w 178, 3) := nq_d dX11_takeNumber_0_g (n := 6) rfl
theorem dX11_takeNumber_13 : decode cX11_takeNumber 13 = .ok (.invokestatic 126, 3) := nq_d dX11_takeNumber_0_g (n := 7) rfl
theorem dX11_takeNumber_16 : decode cX11_takeNumber 16 = .ok (.ifCond .ne 13, 3) := nq_d dX11_takeNumber_0_g (n := 8) rfl
theorem dX11_takeNumber_19 : decode cX11_takeNumber 19 = .ok (.aload_n 0, 1) := nq_d dX11_takeNumber_0_g (n := 9) rfl
theorem dX11_takeNumber_20 : decode cX11_takeNumber 20 = .ok (.iconst 1, 1) := nq_d dX11_takeNumber_0_g (n := 10) rfl
theorem dX11_takeNumber_21 : decode cX11_takeNumber 21 = .ok (.aload_n 0, 1) := nq_d dX11_takeNumber_0_g (n := 11) rfl
theorem dX11_takeNumber_22 : decode cX11_takeNumber 22 = .ok (.getfield 135, 3) := nq_d dX11_takeNumber_0_g (n := 12) rfl
theorem dX11_takeNumber_25 : decode cX11_takeNumber 25 = .ok (.invokevirtual 172, 3) := nq_d dX11_takeNumber_0_g (n := 13) rfl
theorem dX11_takeNumber_28 : decode cX11_takeNumber 28 = .ok (.ireturn, 1) := nq_d dX11_takeNumber_0_g (n := 14) rfl
theorem dX11_takeNumber_29 : decode cX11_takeNumber 29 = .ok (.aload_n 0, 1) := nq_d dX11_takeNumber_0_g (n := 15) rfl
theorem dX11_takeNumber_30 : decode cX11_takeNumber 30 = .ok (.aload_n 0, 1) := nq_d dX11_takeNumber_0_g (n := 16) rfl
theorem dX11_takeNumber_31 : decode cX11_takeNumber 31 = .ok (.getfield 135, 3) := nq_d dX11_takeNumber_0_g (n := 17) rfl
theorem dX11_takeNumber_34 : decode cX11_takeNumber 34 = .ok (.putfield 180, 3) := nq_d dX11_takeNumber_0_g (n := 18) rfl
theorem dX11_takeNumber_37 : decode cX11_takeNumber 37 = .ok (.aload_n 0, 1) := nq_d dX11_takeNumber_0_g (n := 19) rfl
theorem dX11_takeNumber_38 : decode cX11_takeNumber 38 = .ok (.iconst 0, 1) := nq_d dX11_takeNumber_0_g (n := 20) rfl
theorem dX11_takeNumber_39 : decode cX11_takeNumber 39 = .ok (.putfield 183, 3) := nq_d dX11_takeNumber_0_g (n := 21) rfl
theorem dX11_takeNumber_42 : decode cX11_takeNumber 42 = .ok (.aload_n 0, 1) := nq_d dX11_takeNumber_0_g (n := 22) rfl
theorem dX11_takeNumber_43 : decode cX11_takeNumber 43 = .ok (.getfield 135, 3) := nq_d dX11_takeNumber_0_g (n := 23) rfl
theorem dX11_takeNumber_46 : decode cX11_takeNumber 46 = .ok (.aload_n 0, 1) := nq_d dX11_takeNumber_0_g (n := 24) rfl
theorem dX11_takeNumber_47 : decode cX11_takeNumber 47 = .ok (.getfield 130, 3) := nq_d dX11_takeNumber_0_g (n := 25) rfl
theorem dX11_takeNumber_50 : decode cX11_takeNumber 50 = .ok (.if_icmp .ge 79, 3) := nq_d dX11_takeNumber_0_g (n := 26) rfl
theorem dX11_takeNumber_53 : decode cX11_takeNumber 53 = .ok (.aload_n 0, 1) := nq_d dX11_takeNumber_0_g (n := 27) rfl
theorem dX11_takeNumber_54 : decode cX11_takeNumber 54 = .ok (.getfield 22, 3) := nq_d dX11_takeNumber_0_g (n := 28) rfl
theorem dX11_takeNumber_57 : decode cX11_takeNumber 57 = .ok (.aload_n 0, 1) := nq_d dX11_takeNumber_0_g (n := 29) rfl
theorem dX11_takeNumber_58 : decode cX11_takeNumber 58 = .ok (.getfield 135, 3) := nq_d dX11_takeNumber_0_g (n := 30) rfl
theorem dX11_takeNumber_61 : decode cX11_takeNumber 61 = .ok (.iaload, 1) := nq_d dX11_takeNumber_0_g (n := 31) rfl
theorem dX11_takeNumber_62 : decode cX11_takeNumber 62 = .ok (.i2l, 1) := nq_d dX11_takeNumber_0_g (n := 32) rfl
theorem dX11_takeNumber_63 : decode cX11_takeNumber 63 = .ok (.ldc2_w 176, 3) := nq_d dX11_takeNumber_0_g (n := 33) rfl
theorem dX11_takeNumber_66 : decode cX11_takeNumber 66 = .ok (.ldc2_w 178, 3) := nq_d dX11_takeNumber_0_g (n := 34) rfl
theorem dX11_takeNumber_69 : decode cX11_takeNumber 69 = .ok (.invokestatic 126, 3) := nq_d dX11_takeNumber_0_g (n := 35) rfl
theorem dX11_takeNumber_72 : decode cX11_takeNumber 72 = .ok (.ifCond .eq 57, 3) := nq_d dX11_takeNumber_0_g (n := 36) rfl
theorem dX11_takeNumber_75 : decode cX11_takeNumber 75 = .ok (.aload_n 0, 1) := nq_d dX11_takeNumber_0_g (n := 37) rfl
theorem dX11_takeNumber_76 : decode cX11_takeNumber 76 = .ok (.aload_n 0, 1) := nq_d dX11_takeNumber_0_g (n := 38) rfl
theorem dX11_takeNumber_77 : decode cX11_takeNumber 77 = .ok (.getfield 183, 3) := nq_d dX11_takeNumber_0_g (n := 39) rfl
noncomputable def dX11_takeNumber_80_l : List (Nat × Instr × Nat) := [(80, .sipush 10000, 3), (83, .if_icmp .le 10, 3), (86, .aload_n 0, 1), (87, .getfield 183, 3), (90, .goto 23, 3), (93, .bipush 10, 2), (95, .aload_n 0, 1), (96, .getfield 183, 3), (99, .imul, 1), (100, .aload_n 0, 1), (101, .getfield 22, 3), (104, .aload_n 0, 1), (105, .getfield 135, 3), (108, .iaload, 1), (109, .iadd, 1), (110, .bipush 48, 2), (112, .isub, 1), (113, .putfield 183, 3), (116, .aload_n 0, 1), (117, .dup, 1), (118, .getfield 135, 3), (121, .iconst 1, 1), (122, .iadd, 1), (123, .putfield 135, 3), (126, .goto (-84), 3), (129, .aload_n 0, 1), (130, .getfield 135, 3), (133, .aload_n 0, 1), (134, .getfield 180, 3), (137, .isub, 1), (138, .iconst 3, 1), (139, .if_icmp .gt 18, 3), (142, .aload_n 0, 1), (143, .getfield 183, 3), (146, .i2l, 1), (147, .iload_n 1, 1), (148, .i2l, 1), (149, .iload_n 2, 1), (150, .i2l, 1), (151, .invokestatic 126, 3)]
set_option maxRecDepth 100000 in
theorem dX11_takeNumber_80_g : dX11_takeNumber_80_l.all (fun x => decide (decode cX11_takeNumber x.1 = .ok x.2)) = true := by decide +kernel
theorem dX11_takeNumber_80 : decode cX11_takeNumber 80 = .ok (.sipush 10000, 3) := nq_d dX11_takeNumber_80_g (n := 0) rfl
theorem dX11_takeNumber_83 : decode cX11_takeNumber 83 = .ok (.if_icmp .le 10, 3) := nq_d dX11_takeNumber_80_g (n := 1) rfl
theorem dX11_takeNumber_86 : decode cX11_takeNumber 86 = .ok (.aload_n 0, 1) := nq_d dX11_takeNumber_80_g (n := 2) rfl
theorem dX11_takeNumber_87 : decode cX11_takeNumber 87 = .ok (.getfield 183, 3) := nq_d dX11_takeNumber_80_g (n := 3) rfl
theorem dX11_takeNumber_90 : decode cX11_takeNumber 90 = .ok (.goto 23, 3) := nq_d dX11_takeNumber_80_g (n := 4) rfl
theorem dX11_takeNumber_93 : decode cX11_takeNumber 93 = .ok (.bipush 10, 2) := nq_d dX11_takeNumber_80_g (n := 5) rfl
theorem dX11_takeNumber_95 : decode cX11_takeNumber 95 = .ok (.aload_n 0, 1) := nq_d dX11_takeNumber_80_g (n := 6) rfl
theorem dX11_takeNumber_96 : decode cX11_takeNumber 96 = .ok (.getfield 183, 3) := nq_d dX11_takeNumber_80_g (n := 7) rfl
theorem dX11_takeNumber_99 : decode cX11_takeNumber 99 = .ok (.imul, 1) := nq_d dX11_takeNumber_80_g (n := 8) rfl
theorem dX11_takeNumber_100 : decode cX11_takeNumber 100 = .ok (.aload_n 0, 1) := nq_d dX11_takeNumber_80_g (n := 9) rfl
theorem dX11_takeNumber_101 : decode cX11_takeNumber 101 = .ok (.getfield 22, 3) := nq_d dX11_takeNumber_80_g (n := 10) rfl
theorem dX11_takeNumber_104 : decode cX11_takeNumber 104 = .ok (.aload_n 0, 1) := nq_d dX11_takeNumber_80_g (n := 11) rfl
theorem dX11_takeNumber_105 : decode cX11_takeNumber 105 = .ok (.getfield 135, 3) := nq_d dX11_takeNumber_80_g (n := 12) rfl
theorem dX11_takeNumber_108 : decode cX11_takeNumber 108 = .ok (.iaload, 1) := nq_d dX11_takeNumber_80_g (n := 13) rfl
theorem dX11_takeNumber_109 : decode cX11_takeNumber 109 = .ok (.iadd, 1) := nq_d dX11_takeNumber_80_g (n := 14) rfl
theorem dX11_takeNumber_110 : decode cX11_takeNumber 110 = .ok (.bipush 48, 2) := nq_d dX11_takeNumber_80_g (n := 15) rfl
theorem dX11_takeNumber_112 : decode cX11_takeNumber 112 = .ok (.isub, 1) := nq_d dX11_takeNumber_80_g (n := 16) rfl
theorem dX11_takeNumber_113 : decode cX11_takeNumber 113 = .ok (.putfield 183, 3) := nq_d dX11_takeNumber_80_g (n := 17) rfl
theorem dX11_takeNumber_116 : decode cX11_takeNumber 116 = .ok (.aload_n 0, 1) := nq_d dX11_takeNumber_80_g (n := 18) rfl
theorem dX11_takeNumber_117 : decode cX11_takeNumber 117 = .ok (.dup, 1) := nq_d dX11_takeNumber_80_g (n := 19) rfl
theorem dX11_takeNumber_118 : decode cX11_takeNumber 118 = .ok (.getfield 135, 3) := nq_d dX11_takeNumber_80_g (n := 20) rfl
theorem dX11_takeNumber_121 : decode cX11_takeNumber 121 = .ok (.iconst 1, 1) := nq_d dX11_takeNumber_80_g (n := 21) rfl
theorem dX11_takeNumber_122 : decode cX11_takeNumber 122 = .ok (.iadd, 1) := nq_d dX11_takeNumber_80_g (n := 22) rfl
theorem dX11_takeNumber_123 : decode cX11_takeNumber 123 = .ok (.putfield 135, 3) := nq_d dX11_takeNumber_80_g (n := 23) rfl
theorem dX11_takeNumber_126 : decode cX11_takeNumber 126 = .ok (.goto (-84), 3) := nq_d dX11_takeNumber_80_g (n := 24) rfl
theorem dX11_takeNumber_129 : decode cX11_takeNumber 129 = .ok (.aload_n 0, 1) := nq_d dX11_takeNumber_80_g (n := 25) rfl
theorem dX11_takeNumber_130 : decode cX11_takeNumber 130 = .ok (.getfield 135, 3) := nq_d dX11_takeNumber_80_g (n := 26) rfl
theorem dX11_takeNumber_133 : decode cX11_takeNumber 133 = .ok (.aload_n 0, 1) := nq_d dX11_takeNumber_80_g (n := 27) rfl
theorem dX11_takeNumber_134 : decode cX11_takeNumber 134 = .ok (.getfield 180, 3) := nq_d dX11_takeNumber_80_g (n := 28) rfl
theorem dX11_takeNumber_137 : decode cX11_takeNumber 137 = .ok (.isub, 1) := nq_d dX11_takeNumber_80_g (n := 29) rfl
theorem dX11_takeNumber_138 : decode cX11_takeNumber 138 = .ok (.iconst 3, 1) := nq_d dX11_takeNumber_80_g (n := 30) rfl
theorem dX11_takeNumber_139 : decode cX11_takeNumber 139 = .ok (.if_icmp .gt 18, 3) := nq_d dX11_takeNumber_80_g (n := 31) rfl
theorem dX11_takeNumber_142 : decode cX11_takeNumber 142 = .ok (.aload_n 0, 1) := nq_d dX11_takeNumber_80_g (n := 32) rfl
theorem dX11_takeNumber_143 : decode cX11_takeNumber 143 = .ok (.getfield 183, 3) := nq_d dX11_takeNumber_80_g (n := 33) rfl
theorem dX11_takeNumber_146 : decode cX11_takeNumber 146 = .ok (.i2l, 1) := nq_d dX11_takeNumber_80_g (n := 34) rfl
theorem dX11_takeNumber_147 : decode cX11_takeNumber 147 = .ok (.iload_n 1, 1) := nq_d dX11_takeNumber_80_g (n := 35) rfl
theorem dX11_takeNumber_148 : decode cX11_takeNumber 148 = .ok (.i2l, 1) := nq_d dX11_takeNumber_80_g (n := 36) rfl
theorem dX11_takeNumber_149 : decode cX11_takeNumber 149 = .ok (.iload_n 2, 1) := nq_d dX11_takeNumber_80_g (n := 37) rfl
theorem dX11_takeNumber_150 : decode cX11_takeNumber 150 = .ok (.i2l, 1) := nq_d dX11_takeNumber_80_g (n := 38) rfl
theorem dX11_takeNumber_151 : decode cX11_takeNumber 151 = .ok (.invokestatic 126, 3) := nq_d dX11_takeNumber_80_g (n := 39) rfl
noncomputable def dX11_takeNumber_154_l : List (Nat × Instr × Nat) := [(154, .ifCond .ne 15, 3), (157, .aload_n 0, 1), (158, .iconst 2, 1), (159, .aload_n 0, 1), (160, .getfield 180, 3), (163, .invokevirtual 172, 3), (166, .goto 4, 3), (169, .iconst 0, 1), (170, .ireturn, 1)]
set_option maxRecDepth 100000 in
theorem dX11_takeNumber_154_g : dX11_takeNumber_154_l.all (fun x => decide (decode cX11_takeNumber x.1 = .ok x.2)) = true := by decide +kernel
theorem dX11_takeNumber_154 : decode cX11_takeNumber 154 = .ok (.ifCond .ne 15, 3) := nq_d dX11_takeNumber_154_g (n := 0) rfl
theorem dX11_takeNumber_157 : decode cX11_takeNumber 157 = .ok (.aload_n 0, 1) := nq_d dX11_takeNumber_154_g (n := 1) rfl
theorem dX11_takeNumber_158 : decode cX11_takeNumber 158 = .ok (.iconst 2, 1) := nq_d dX11_takeNumber_154_g (n := 2) rfl
theorem dX11_takeNumber_159 : decode cX11_takeNumber 159 = .ok (.aload_n 0, 1) := nq_d dX11_takeNumber_154_g (n := 3) rfl
theorem dX11_takeNumber_160 : decode cX11_takeNumber 160 = .ok (.getfield 180, 3) := nq_d dX11_takeNumber_154_g (n := 4) rfl
theorem dX11_takeNumber_163 : decode cX11_takeNumber 163 = .ok (.invokevirtual 172, 3) := nq_d dX11_takeNumber_154_g (n := 5) rfl
theorem dX11_takeNumber_166 : decode cX11_takeNumber 166 = .ok (.goto 4, 3) := nq_d dX11_takeNumber_154_g (n := 6) rfl
theorem dX11_takeNumber_169 : decode cX11_takeNumber 169 = .ok (.iconst 0, 1) := nq_d dX11_takeNumber_154_g (n := 7) rfl
theorem dX11_takeNumber_170 : decode cX11_takeNumber 170 = .ok (.ireturn, 1) := nq_d dX11_takeNumber_154_g (n := 8) rfl
noncomputable def dX11_bare_0_l : List (Nat × Instr × Nat) := [(0, .aload_n 0, 1), (1, .iconst 0, 1), (2, .putfield 186, 3), (5, .aload_n 0, 1), (6, .iconst 0, 1), (7, .putfield 189, 3), (10, .aload_n 0, 1), (11, .iconst 0, 1), (12, .putfield 192, 3), (15, .iconst 0, 1), (16, .istore_n 1, 1), (17, .iload_n 1, 1), (18, .iconst 4, 1), (19, .if_icmp .ge 43, 3), (22, .aload_n 0, 1), (23, .getfield 35, 3), (26, .iconst 3, 1), (27, .iload_n 1, 1), (28, .imul, 1), (29, .bipush 10, 2), (31, .iastore, 1), (32, .aload_n 0, 1), (33, .getfield 35, 3), (36, .iconst 3, 1), (37, .iload_n 1, 1), (38, .imul, 1), (39, .iconst 1, 1), (40, .iadd, 1), (41, .bipush 20, 2), (43, .iastore, 1), (44, .aload_n 0, 1), (45, .getfield 35, 3), (48, .iconst 3, 1), (49, .iload_n 1, 1), (50, .imul, 1), (51, .iconst 2, 1), (52, .iadd, 1), (53, .bipush 70, 2), (55, .iastore, 1), (56, .iinc 1 1, 3)]
set_option maxRecDepth 100000 in
theorem dX11_bare_0_g : dX11_bare_0_l.all (fun x => decide (decode cX11_bare x.1 = .ok x.2)) = true := by decide +kernel
theorem dX11_bare_0 : decode cX11_bare 0 = .ok (.aload_n 0, 1) := nq_d dX11_bare_0_g (n := 0) rfl
theorem dX11_bare_1 : decode cX11_bare 1 = .ok (.iconst 0, 1) := nq_d dX11_bare_0_g (n := 1) rfl
theorem dX11_bare_2 : decode cX11_bare 2 = .ok (.putfield 186, 3) := nq_d dX11_bare_0_g (n := 2) rfl
theorem dX11_bare_5 : decode cX11_bare 5 = .ok (.aload_n 0, 1) := nq_d dX11_bare_0_g (n := 3) rfl
theorem dX11_bare_6 : decode cX11_bare 6 = .ok (.iconst 0, 1) := nq_d dX11_bare_0_g (n := 4) rfl
theorem dX11_bare_7 : decode cX11_bare 7 = .ok (.putfield 189, 3) := nq_d dX11_bare_0_g (n := 5) rfl
theorem dX11_bare_10 : decode cX11_bare 10 = .ok (.aload_n 0, 1) := nq_d dX11_bare_0_g (n := 6) rfl
theorem dX11_bare_11 : decode cX11_bare 11 = .ok (.iconst 0, 1) := nq_d dX11_bare_0_g (n := 7) rfl
theorem dX11_bare_12 : decode cX11_bare 12 = .ok (.putfield 192, 3) := nq_d dX11_bare_0_g (n := 8) rfl
theorem dX11_bare_15 : decode cX11_bare 15 = .ok (.iconst 0, 1) := nq_d dX11_bare_0_g (n := 9) rfl
theorem dX11_bare_16 : decode cX11_bare 16 = .ok (.istore_n 1, 1) := nq_d dX11_bare_0_g (n := 10) rfl
theorem dX11_bare_17 : decode cX11_bare 17 = .ok (.iload_n 1, 1) := nq_d dX11_bare_0_g (n := 11) rfl
theorem dX11_bare_18 : decode cX11_bare 18 = .ok (.iconst 4, 1) := nq_d dX11_bare_0_g (n := 12) rfl
theorem dX11_bare_19 : decode cX11_bare 19 = .ok (.if_icmp .ge 43, 3) := nq_d dX11_bare_0_g (n := 13) rfl
theorem dX11_bare_22 : decode cX11_bare 22 = .ok (.aload_n 0, 1) := nq_d dX11_bare_0_g (n := 14) rfl
theorem dX11_bare_23 : decode cX11_bare 23 = .ok (.getfield 35, 3) := nq_d dX11_bare_0_g (n := 15) rfl
theorem dX11_bare_26 : decode cX11_bare 26 = .ok (.iconst 3, 1) := nq_d dX11_bare_0_g (n := 16) rfl
theorem dX11_bare_27 : decode cX11_bare 27 = .ok (.iload_n 1, 1) := nq_d dX11_bare_0_g (n := 17) rfl
theorem dX11_bare_28 : decode cX11_bare 28 = .ok (.imul, 1) := nq_d dX11_bare_0_g (n := 18) rfl
theorem dX11_bare_29 : decode cX11_bare 29 = .ok (.bipush 10, 2) := nq_d dX11_bare_0_g (n := 19) rfl
theorem dX11_bare_31 : decode cX11_bare 31 = .ok (.iastore, 1) := nq_d dX11_bare_0_g (n := 20) rfl
theorem dX11_bare_32 : decode cX11_bare 32 = .ok (.aload_n 0, 1) := nq_d dX11_bare_0_g (n := 21) rfl
theorem dX11_bare_33 : decode cX11_bare 33 = .ok (.getfield 35, 3) := nq_d dX11_bare_0_g (n := 22) rfl
theorem dX11_bare_36 : decode cX11_bare 36 = .ok (.iconst 3, 1) := nq_d dX11_bare_0_g (n := 23) rfl
theorem dX11_bare_37 : decode cX11_bare 37 = .ok (.iload_n 1, 1) := nq_d dX11_bare_0_g (n := 24) rfl
theorem dX11_bare_38 : decode cX11_bare 38 = .ok (.imul, 1) := nq_d dX11_bare_0_g (n := 25) rfl
theorem dX11_bare_39 : decode cX11_bare 39 = .ok (.iconst 1, 1) := nq_d dX11_bare_0_g (n := 26) rfl
theorem dX11_bare_40 : decode cX11_bare 40 = .ok (.iadd, 1) := nq_d dX11_bare_0_g (n := 27) rfl
theorem dX11_bare_41 : decode cX11_bare 41 = .ok (.bipush 20, 2) := nq_d dX11_bare_0_g (n := 28) rfl
theorem dX11_bare_43 : decode cX11_bare 43 = .ok (.iastore, 1) := nq_d dX11_bare_0_g (n := 29) rfl
theorem dX11_bare_44 : decode cX11_bare 44 = .ok (.aload_n 0, 1) := nq_d dX11_bare_0_g (n := 30) rfl
theorem dX11_bare_45 : decode cX11_bare 45 = .ok (.getfield 35, 3) := nq_d dX11_bare_0_g (n := 31) rfl
theorem dX11_bare_48 : decode cX11_bare 48 = .ok (.iconst 3, 1) := nq_d dX11_bare_0_g (n := 32) rfl
theorem dX11_bare_49 : decode cX11_bare 49 = .ok (.iload_n 1, 1) := nq_d dX11_bare_0_g (n := 33) rfl
theorem dX11_bare_50 : decode cX11_bare 50 = .ok (.imul, 1) := nq_d dX11_bare_0_g (n := 34) rfl
theorem dX11_bare_51 : decode cX11_bare 51 = .ok (.iconst 2, 1) := nq_d dX11_bare_0_g (n := 35) rfl
theorem dX11_bare_52 : decode cX11_bare 52 = .ok (.iadd, 1) := nq_d dX11_bare_0_g (n := 36) rfl
theorem dX11_bare_53 : decode cX11_bare 53 = .ok (.bipush 70, 2) := nq_d dX11_bare_0_g (n := 37) rfl
theorem dX11_bare_55 : decode cX11_bare 55 = .ok (.iastore, 1) := nq_d dX11_bare_0_g (n := 38) rfl
theorem dX11_bare_56 : decode cX11_bare 56 = .ok (.iinc 1 1, 3) := nq_d dX11_bare_0_g (n := 39) rfl
noncomputable def dX11_bare_59_l : List (Nat × Instr × Nat) := [(59, .goto (-42), 3), (62, .aload_n 0, 1), (63, .getfield 38, 3), (66, .iconst 0, 1), (67, .iconst 1, 1), (68, .iastore, 1), (69, .aload_n 0, 1), (70, .getfield 38, 3), (73, .iconst 1, 1), (74, .iconst 2, 1), (75, .iastore, 1), (76, .aload_n 0, 1), (77, .getfield 38, 3), (80, .iconst 2, 1), (81, .iconst 5, 1), (82, .iastore, 1), (83, .aload_n 0, 1), (84, .getfield 38, 3), (87, .iconst 3, 1), (88, .iconst 2, 1), (89, .iastore, 1), (90, .aload_n 0, 1), (91, .getfield 38, 3), (94, .iconst 4, 1), (95, .iconst 1, 1), (96, .iastore, 1), (97, .return_, 1)]
set_option maxRecDepth 100000 in
theorem dX11_bare_59_g : dX11_bare_59_l.all (fun x => decide (decode cX11_bare x.1 = .ok x.2)) = true := by decide +kernel
theorem dX11_bare_59 : decode cX11_bare 59 = .ok (.goto (-42), 3) := nq_d dX11_bare_59_g (n := 0) rfl
theorem dX11_bare_62 : decode cX11_bare 62 = .ok (.aload_n 0, 1) := nq_d dX11_bare_59_g (n := 1) rfl
theorem dX11_bare_63 : decode cX11_bare 63 = .ok (.getfield 38, 3) := nq_d dX11_bare_59_g (n := 2) rfl
theorem dX11_bare_66 : decode cX11_bare 66 = .ok (.iconst 0, 1) := nq_d dX11_bare_59_g (n := 3) rfl
theorem dX11_bare_67 : decode cX11_bare 67 = .ok (.iconst 1, 1) := nq_d dX11_bare_59_g (n := 4) rfl
theorem dX11_bare_68 : decode cX11_bare 68 = .ok (.iastore, 1) := nq_d dX11_bare_59_g (n := 5) rfl
theorem dX11_bare_69 : decode cX11_bare 69 = .ok (.aload_n 0, 1) := nq_d dX11_bare_59_g (n := 6) rfl
theorem dX11_bare_70 : decode cX11_bare 70 = .ok (.getfield 38, 3) := nq_d dX11_bare_59_g (n := 7) rfl
theorem dX11_bare_73 : decode cX11_bare 73 = .ok (.iconst 1, 1) := nq_d dX11_bare_59_g (n := 8) rfl
theorem dX11_bare_74 : decode cX11_bare 74 = .ok (.iconst 2, 1) := nq_d dX11_bare_59_g (n := 9) rfl
theorem dX11_bare_75 : decode cX11_bare 75 = .ok (.iastore, 1) := nq_d dX11_bare_59_g (n := 10) rfl
theorem dX11_bare_76 : decode cX11_bare 76 = .ok (.aload_n 0, 1) := nq_d dX11_bare_59_g (n := 11) rfl
theorem dX11_bare_77 : decode cX11_bare 77 = .ok (.getfield 38, 3) := nq_d dX11_bare_59_g (n := 12) rfl
theorem dX11_bare_80 : decode cX11_bare 80 = .ok (.iconst 2, 1) := nq_d dX11_bare_59_g (n := 13) rfl
theorem dX11_bare_81 : decode cX11_bare 81 = .ok (.iconst 5, 1) := nq_d dX11_bare_59_g (n := 14) rfl
theorem dX11_bare_82 : decode cX11_bare 82 = .ok (.iastore, 1) := nq_d dX11_bare_59_g (n := 15) rfl
theorem dX11_bare_83 : decode cX11_bare 83 = .ok (.aload_n 0, 1) := nq_d dX11_bare_59_g (n := 16) rfl
theorem dX11_bare_84 : decode cX11_bare 84 = .ok (.getfield 38, 3) := nq_d dX11_bare_59_g (n := 17) rfl
theorem dX11_bare_87 : decode cX11_bare 87 = .ok (.iconst 3, 1) := nq_d dX11_bare_59_g (n := 18) rfl
theorem dX11_bare_88 : decode cX11_bare 88 = .ok (.iconst 2, 1) := nq_d dX11_bare_59_g (n := 19) rfl
theorem dX11_bare_89 : decode cX11_bare 89 = .ok (.iastore, 1) := nq_d dX11_bare_59_g (n := 20) rfl
theorem dX11_bare_90 : decode cX11_bare 90 = .ok (.aload_n 0, 1) := nq_d dX11_bare_59_g (n := 21) rfl
theorem dX11_bare_91 : decode cX11_bare 91 = .ok (.getfield 38, 3) := nq_d dX11_bare_59_g (n := 22) rfl
theorem dX11_bare_94 : decode cX11_bare 94 = .ok (.iconst 4, 1) := nq_d dX11_bare_59_g (n := 23) rfl
theorem dX11_bare_95 : decode cX11_bare 95 = .ok (.iconst 1, 1) := nq_d dX11_bare_59_g (n := 24) rfl
theorem dX11_bare_96 : decode cX11_bare 96 = .ok (.iastore, 1) := nq_d dX11_bare_59_g (n := 25) rfl
theorem dX11_bare_97 : decode cX11_bare 97 = .ok (.return_, 1) := nq_d dX11_bare_59_g (n := 26) rfl
set_option maxRecDepth 100000 in
theorem ggX11_takeRow_X11_takeNumber : GoodIn wsX11_takeRow wsX11_takeNumber := goodIn_sub (sub_c (nq_m (n := 10) rfl) (sub_c (nq_m (n := 11) rfl) (sub_c (nq_m (n := 12) rfl) (sub_c (nq_m (n := 13) rfl) (sub_c (nq_m (n := 3) rfl) (sub_c (nq_m (n := 1) rfl) (sub_c (nq_m (n := 14) rfl) (sub_c (nq_m (n := 15) rfl) (sub_c (nq_m (n := 16) rfl) (sub_c (nq_m (n := 17) rfl) (sub_c (nq_m (n := 18) rfl) (sub_c (nq_m (n := 9) rfl) (sub_c (nq_m (n := 19) rfl) (sub_c (nq_m (n := 20) rfl) (sub_c (nq_m (n := 21) rfl) (sub_c (nq_m (n := 22) rfl) (sub_c (nq_m (n := 23) rfl) (sub_c (nq_m (n := 24) rfl) (sub_c (nq_m (n := 25) rfl) (sub_c (nq_m (n := 26) rfl) (sub_c (nq_m (n := 27) rfl) (sub_c (nq_m (n := 50) rfl) (sub_c (nq_m (n := 51) rfl) (sub_c (nq_m (n := 52) rfl) (sub_c (nq_m (n := 53) rfl) (sub_c (nq_m (n := 54) rfl) (sub_c (nq_m (n := 55) rfl) (sub_c (nq_m (n := 56) rfl) (sub_c (nq_m (n := 57) rfl) (sub_c (nq_m (n := 58) rfl) (sub_c (nq_m (n := 59) rfl) (sub_c (nq_m (n := 60) rfl) (sub_c (nq_m (n := 61) rfl) (sub_c (nq_m (n := 62) rfl) (sub_c (nq_m (n := 63) rfl) (sub_c (nq_m (n := 64) rfl) (sub_c (nq_m (n := 65) rfl) (sub_c (nq_m (n := 66) rfl) (sub_c (nq_m (n := 67) rfl) (sub_c (nq_m (n := 68) rfl) (sub_c (nq_m (n := 69) rfl) (sub_c (nq_m (n := 70) rfl) (sub_c (nq_m (n := 71) rfl) (sub_c (nq_m (n := 72) rfl) (sub_c (nq_m (n := 73) rfl) (sub_c (nq_m (n := 74) rfl) (sub_c (nq_m (n := 75) rfl) (sub_c (nq_m (n := 76) rfl) (sub_c (nq_m (n := 77) rfl) (sub_c (nq_m (n := 78) rfl) (sub_c (nq_m (n := 79) rfl) (sub_c (nq_m (n := 80) rfl) (sub_c (nq_m (n := 81) rfl) (sub_c (nq_m (n := 82) rfl) (sub_c (nq_m (n := 83) rfl) (sub_c (nq_m (n := 84) rfl) (sub_c (nq_m (n := 85) rfl) (sub_c (nq_m (n := 86) rfl) (sub_c (nq_m (n := 87) rfl) (sub_c (nq_m (n := 88) rfl) (sub_c (nq_m (n := 89) rfl) (sub_c (nq_m (n := 90) rfl) (sub_c (nq_m (n := 91) rfl) (sub_c (nq_m (n := 92) rfl) (sub_c (nq_m (n := 93) rfl) (sub_c (nq_m (n := 94) rfl) (sub_c (nq_m (n := 95) rfl) (sub_c (nq_m (n := 96) rfl) (sub_c (nq_m (n := 97) rfl) (sub_c (nq_m (n := 98) rfl) (sub_c (nq_m (n := 99) rfl) (sub_c (nq_m (n := 100) rfl) (sub_c (nq_m (n := 101) rfl) (sub_c (nq_m (n := 102) rfl) (sub_c (nq_m (n := 103) rfl) (sub_c (nq_m (n := 104) rfl) (sub_c (nq_m (n := 105) rfl) (sub_c (nq_m (n := 106) rfl) (sub_c (nq_m (n := 107) rfl) sub_n))))))))))))))))))))))))))))))))))))))))))))))))))))))))))))))))))))))))))))))) (by decide +kernel)
set_option maxRecDepth 100000 in
theorem gX11_takeRow_X11_takeNumber : GoodIn wsX11_takeRow (wsV RX11 195 RX11 yX11_takeNumber wsX11_takeNumber) := goodIn_app (goodIn_sub (sub_c (nq_m (n := 6) rfl) (sub_c (nq_m (n := 7) rfl) (sub_c (nq_m (n := 8) rfl) (sub_c (nq_m (n := 9) rfl) sub_n)))) (by decide +kernel)) ggX11_takeRow_X11_takeNumber
set_option maxRecDepth 100000 in
theorem ggX11_takeRow_X11_fails : GoodIn wsX11_takeRow wsX11_fails := goodIn_sub (sub_c (nq_m (n := 26) rfl) (sub_c (nq_m (n := 27) rfl) (sub_c (nq_m (n := 50) rfl) (sub_c (nq_m (n := 51) rfl) (sub_c (nq_m (n := 52) rfl) (sub_c (nq_m (n := 53) rfl) (sub_c (nq_m (n := 54) rfl) (sub_c (nq_m (n := 55) rfl) (sub_c (nq_m (n := 56) rfl) (sub_c (nq_m (n := 57) rfl) (sub_c (nq_m (n := 58) rfl) (sub_c (nq_m (n := 59) rfl) (sub_c (nq_m (n := 60) rfl) (sub_c (nq_m (n := 61) rfl) (sub_c (nq_m (n := 62) rfl) (sub_c (nq_m (n := 63) rfl) (sub_c (nq_m (n := 64) rfl) (sub_c (nq_m (n := 65) rfl) (sub_c (nq_m (n := 66) rfl) (sub_c (nq_m (n := 67) rfl) (sub_c (nq_m (n := 68) rfl) (sub_c (nq_m (n := 69) rfl) (sub_c (nq_m (n := 70) rfl) (sub_c (nq_m (n := 71) rfl) (sub_c (nq_m (n := 72) rfl) (sub_c (nq_m (n := 73) rfl) (sub_c (nq_m (n := 74) rfl) (sub_c (nq_m (n := 75) rfl) (sub_c (nq_m (n := 76) rfl) (sub_c (nq_m (n := 77) rfl) (sub_c (nq_m (n := 78) rfl) (sub_c (nq_m (n := 79) rfl) (sub_c (nq_m (n := 80) rfl) (sub_c (nq_m (n := 81) rfl) (sub_c (nq_m (n := 82) rfl) (sub_c (nq_m (n := 83) rfl) (sub_c (nq_m (n := 84) rfl) (sub_c (nq_m (n := 85) rfl) (sub_c (nq_m (n := 86) rfl) (sub_c (nq_m (n := 87) rfl) (sub_c (nq_m (n := 88) rfl) (sub_c (nq_m (n := 89) rfl) (sub_c (nq_m (n := 90) rfl) (sub_c (nq_m (n := 91) rfl) (sub_c (nq_m (n := 92) rfl) (sub_c (nq_m (n := 93) rfl) (sub_c (nq_m (n := 94) rfl) (sub_c (nq_m (n := 95) rfl) (sub_c (nq_m (n := 96) rfl) (sub_c (nq_m (n := 97) rfl) (sub_c (nq_m (n := 98) rfl) (sub_c (nq_m (n := 99) rfl) (sub_c (nq_m (n := 100) rfl) (sub_c (nq_m (n := 101) rfl) (sub_c (nq_m (n := 102) rfl) (sub_c (nq_m (n := 103) rfl) (sub_c (nq_m (n := 104) rfl) (sub_c (nq_m (n := 105) rfl) (sub_c (nq_m (n := 106) rfl) (sub_c (nq_m (n := 107) rfl) sub_n)))))))))))))))))))))))))))))))))))))))))))))))))))))))))))) (by decide +kernel)
set_option maxRecDepth 100000 in
theorem gX11_takeRow_X11_fails : GoodIn wsX11_takeRow (wsV RX11 172 RX11 yX11_fails wsX11_fails) := goodIn_app (goodIn_sub (sub_c (nq_m (n := 23) rfl) (sub_c (nq_m (n := 24) rfl) (sub_c (nq_m (n := 25) rfl) (sub_c (nq_m (n := 9) rfl) sub_n)))) (by decide +kernel)) ggX11_takeRow_X11_fails
set_option maxRecDepth 100000 in
theorem ggX11_takeRow_X11_code : GoodIn wsX11_takeRow wsX11_code := goodIn_sub (sub_c (nq_m (n := 30) rfl) (sub_c (nq_m (n := 31) rfl) (sub_c (nq_m (n := 32) rfl) sub_n))) (by decide +kernel)
set_option maxRecDepth 100000 in
theorem gX11_takeRow_X11_code : GoodIn wsX11_takeRow (va_wsS RX11 161 yX11_code wsX11_code) := goodIn_app (goodIn_sub (sub_c (nq_m (n := 28) rfl) (sub_c (nq_m (n := 29) rfl) (sub_c (nq_m (n := 9) rfl) sub_n))) (by decide +kernel)) ggX11_takeRow_X11_code
set_option maxRecDepth 100000 in
theorem ggX11_takeRow_X11_longer : GoodIn wsX11_takeRow wsX11_longer := goodIn_sub (sub_c (nq_m (n := 35) rfl) (sub_c (nq_m (n := 31) rfl) (sub_c (nq_m (n := 32) rfl) sub_n))) (by decide +kernel)
set_option maxRecDepth 100000 in
theorem gX11_takeRow_X11_longer : GoodIn wsX11_takeRow (va_wsS RX11 165 yX11_longer wsX11_longer) := goodIn_app (goodIn_sub (sub_c (nq_m (n := 33) rfl) (sub_c (nq_m (n := 34) rfl) (sub_c (nq_m (n := 9) rfl) sub_n))) (by decide +kernel)) ggX11_takeRow_X11_longer
set_option maxRecDepth 100000 in
theorem ggX11_takeRow_X11_needs : GoodIn wsX11_takeRow wsX11_needs := goodIn_sub (sub_c (nq_m (n := 39) rfl) (sub_c (nq_m (n := 40) rfl) (sub_c (nq_m (n := 13) rfl) (sub_c (nq_m (n := 41) rfl) (sub_c (nq_m (n := 42) rfl) (sub_c (nq_m (n := 43) rfl) (sub_c (nq_m (n := 44) rfl) (sub_c (nq_m (n := 9) rfl) (sub_c (nq_m (n := 45) rfl) (sub_c (nq_m (n := 14) rfl) (sub_c (nq_m (n := 15) rfl) (sub_c (nq_m (n := 46) rfl) (sub_c (nq_m (n := 47) rfl) (sub_c (nq_m (n := 48) rfl) (sub_c (nq_m (n := 49) rfl) (sub_c (nq_m (n := 31) rfl) (sub_c (nq_m (n := 32) rfl) (sub_c (nq_m (n := 16) rfl) (sub_c (nq_m (n := 17) rfl) (sub_c (nq_m (n := 18) rfl) (sub_c (nq_m (n := 19) rfl) (sub_c (nq_m (n := 20) rfl) (sub_c (nq_m (n := 21) rfl) (sub_c (nq_m (n := 22) rfl) (sub_c (nq_m (n := 23) rfl) (sub_c (nq_m (n := 24) rfl) (sub_c (nq_m (n := 25) rfl) (sub_c (nq_m (n := 26) rfl) (sub_c (nq_m (n := 27) rfl) (sub_c (nq_m (n := 50) rfl) (sub_c (nq_m (n := 51) rfl) (sub_c (nq_m (n := 52) rfl) (sub_c (nq_m (n := 53) rfl) (sub_c (nq_m (n := 54) rfl) (sub_c (nq_m (n := 55) rfl) (sub_c (nq_m (n := 56) rfl) (sub_c (nq_m (n := 57) rfl) (sub_c (nq_m (n := 58) rfl) (sub_c (nq_m (n := 59) rfl) (sub_c (nq_m (n := 60) rfl) (sub_c (nq_m (n := 61) rfl) (sub_c (nq_m (n := 62) rfl) (sub_c (nq_m (n := 63) rfl) (sub_c (nq_m (n := 64) rfl) (sub_c (nq_m (n := 65) rfl) (sub_c (nq_m (n := 66) rfl) (sub_c (nq_m (n := 67) rfl) (sub_c (nq_m (n := 68) rfl) (sub_c (nq_m (n := 69) rfl) (sub_c (nq_m (n := 70) rfl) (sub_c (nq_m (n := 71) rfl) (sub_c (nq_m (n := 72) rfl) (sub_c (nq_m (n := 73) rfl) (sub_c (nq_m (n := 74) rfl) (sub_c (nq_m (n := 75) rfl) (sub_c (nq_m (n := 76) rfl) (sub_c (nq_m (n := 77) rfl) (sub_c (nq_m (n := 78) rfl) (sub_c (nq_m (n := 79) rfl) (sub_c (nq_m (n := 80) rfl) (sub_c (nq_m (n := 81) rfl) (sub_c (nq_m (n := 82) rfl) (sub_c (nq_m (n := 83) rfl) (sub_c (nq_m (n := 84) rfl) (sub_c (nq_m (n := 85) rfl) (sub_c (nq_m (n := 86) rfl) (sub_c (nq_m (n := 87) rfl) (sub_c (nq_m (n := 88) rfl) (sub_c (nq_m (n := 89) rfl) (sub_c (nq_m (n := 90) rfl) (sub_c (nq_m (n := 91) rfl) (sub_c (nq_m (n := 92) rfl) (sub_c (nq_m (n := 93) rfl) (sub_c (nq_m (n := 94) rfl) (sub_c (nq_m (n := 95) rfl) (sub_c (nq_m (n := 96) rfl) (sub_c (nq_m (n := 97) rfl) (sub_c (nq_m (n := 98) rfl) (sub_c (nq_m (n := 99) rfl) (sub_c (nq_m (n := 100) rfl) (sub_c (nq_m (n := 101) rfl) (sub_c (nq_m (n := 102) rfl) (sub_c (nq_m (n := 103) rfl) (sub_c (nq_m (n := 104) rfl) (sub_c (nq_m (n := 105) rfl) (sub_c (nq_m (n := 106) rfl) (sub_c (nq_m (n := 107) rfl) sub_n))))))))))))))))))))))))))))))))))))))))))))))))))))))))))))))))))))))))))))))))))))))) (by decide +kernel)
set_option maxRecDepth 100000 in
theorem gX11_takeRow_X11_needs : GoodIn wsX11_takeRow (wsV RX11 198 RX11 yX11_needs wsX11_needs) := goodIn_app (goodIn_sub (sub_c (nq_m (n := 36) rfl) (sub_c (nq_m (n := 37) rfl) (sub_c (nq_m (n := 38) rfl) (sub_c (nq_m (n := 9) rfl) sub_n)))) (by decide +kernel)) ggX11_takeRow_X11_needs
noncomputable def dX11_takeRow_0_l : List (Nat × Instr × Nat) := [(0, .aload_n 0, 1), (1, .iconst 1, 1), (2, .bipush 24, 2), (4, .invokevirtual 195, 3), (7, .istore_n 1, 1), (8, .aload_n 0, 1), (9, .getfield 183, 3), (12, .istore_n 2, 1), (13, .iload_n 1, 1), (14, .ifCond .ne 24, 3), (17, .aload_n 0, 1), (18, .getfield 186, 3), (21, .iload_n 2, 1), (22, .iadd, 1), (23, .bipush 24, 2), (25, .if_icmp .le 13, 3), (28, .aload_n 0, 1), (29, .iconst 4, 1), (30, .aload_n 0, 1), (31, .getfield 180, 3), (34, .invokevirtual 172, 3), (37, .istore_n 1, 1), (38, .iload_n 1, 1), (39, .ifCond .le 7, 3), (42, .iload_n 1, 1), (43, .goto 21, 3), (46, .aload_n 0, 1), (47, .bipush 107, 2), (49, .bipush 105, 2), (51, .bipush 110, 2), (53, .invokestatic 161, 3), (56, .bipush 100, 2), (58, .invokestatic 165, 3), (61, .invokevirtual 198, 3), (64, .istore_n 1, 1), (65, .iload_n 1, 1), (66, .ifCond .le 7, 3), (69, .iload_n 1, 1), (70, .goto 9, 3), (73, .aload_n 0, 1)]
set_option maxRecDepth 100000 in
theorem dX11_takeRow_0_g : dX11_takeRow_0_l.all (fun x => decide (decode cX11_takeRow x.1 = .ok x.2)) = true := by decide +kernel
theorem dX11_takeRow_0 : decode cX11_takeRow 0 = .ok (.aload_n 0, 1) := nq_d dX11_takeRow_0_g (n := 0) rfl
theorem dX11_takeRow_1 : decode cX11_takeRow 1 = .ok (.iconst 1, 1) := nq_d dX11_takeRow_0_g (n := 1) rfl
theorem dX11_takeRow_2 : decode cX11_takeRow 2 = .ok (.bipush 24, 2) := nq_d dX11_takeRow_0_g (n := 2) rfl
theorem dX11_takeRow_4 : decode cX11_takeRow 4 = .ok (.invokevirtual 195, 3) := nq_d dX11_takeRow_0_g (n := 3) rfl
theorem dX11_takeRow_7 : decode cX11_takeRow 7 = .ok (.istore_n 1, 1) := nq_d dX11_takeRow_0_g (n := 4) rfl
theorem dX11_takeRow_8 : decode cX11_takeRow 8 = .ok (.aload_n 0, 1) := nq_d dX11_takeRow_0_g (n := 5) rfl
theorem dX11_takeRow_9 : decode cX11_takeRow 9 = .ok (.getfield 183, 3) := nq_d dX11_takeRow_0_g (n := 6) rfl
theorem dX11_takeRow_12 : decode cX11_takeRow 12 = .ok (.istore_n 2, 1) := nq_d dX11_takeRow_0_g (n := 7) rfl
theorem dX11_takeRow_13 : decode cX11_takeRow 13 = .ok (.iload_n 1, 1) := nq_d dX11_takeRow_0_g (n := 8) rfl
theorem dX11_takeRow_14 : decode cX11_takeRow 14 = .ok (.ifCond .ne 24, 3) := nq_d dX11_takeRow_0_g (n := 9) rfl
theorem dX11_takeRow_17 : decode cX11_takeRow 17 = .ok (.aload_n 0, 1) := nq_d dX11_takeRow_0_g (n := 10) rfl
theorem dX11_takeRow_18 : decode cX11_takeRow 18 = .ok (.getfield 186, 3) := nq_d dX11_takeRow_0_g (n := 11) rfl
theorem dX11_takeRow_21 : decode cX11_takeRow 21 = .ok (.iload_n 2, 1) := nq_d dX11_takeRow_0_g (n := 12) rfl
theorem dX11_takeRow_22 : decode cX11_takeRow 22 = .ok (.iadd, 1) := nq_d dX11_takeRow_0_g (n := 13) rfl
theorem dX11_takeRow_23 : decode cX11_takeRow 23 = .ok (.bipush 24, 2) := nq_d dX11_takeRow_0_g (n := 14) rfl
theorem dX11_takeRow_25 : decode cX11_takeRow 25 = .ok (.if_icmp .le 13, 3) := nq_d dX11_takeRow_0_g (n := 15) rfl
theorem dX11_takeRow_28 : decode cX11_takeRow 28 = .ok (.aload_n 0, 1) := nq_d dX11_takeRow_0_g (n := 16) rfl
theorem dX11_takeRow_29 : decode cX11_takeRow 29 = .ok (.iconst 4, 1) := nq_d dX11_takeRow_0_g (n := 17) rfl
theorem dX11_takeRow_30 : decode cX11_takeRow 30 = .ok (.aload_n 0, 1) := nq_d dX11_takeRow_0_g (n := 18) rfl
theorem dX11_takeRow_31 : decode cX11_takeRow 31 = .ok (.getfield 180, 3) := nq_d dX11_takeRow_0_g (n := 19) rfl
theorem dX11_takeRow_34 : decode cX11_takeRow 34 = .ok (.invokevirtual 172, 3) := nq_d dX11_takeRow_0_g (n := 20) rfl
theorem dX11_takeRow_37 : decode cX11_takeRow 37 = .ok (.istore_n 1, 1) := nq_d dX11_takeRow_0_g (n := 21) rfl
theorem dX11_takeRow_38 : decode cX11_takeRow 38 = .ok (.iload_n 1, 1) := nq_d dX11_takeRow_0_g (n := 22) rfl
theorem dX11_takeRow_39 : decode cX11_takeRow 39 = .ok (.ifCond .le 7, 3) := nq_d dX11_takeRow_0_g (n := 23) rfl
theorem dX11_takeRow_42 : decode cX11_takeRow 42 = .ok (.iload_n 1, 1) := nq_d dX11_takeRow_0_g (n := 24) rfl
theorem dX11_takeRow_43 : decode cX11_takeRow 43 = .ok (.goto 21, 3) := nq_d dX11_takeRow_0_g (n := 25) rfl
theorem dX11_takeRow_46 : decode cX11_takeRow 46 = .ok (.aload_n 0, 1) := nq_d dX11_takeRow_0_g (n := 26) rfl
theorem dX11_takeRow_47 : decode cX11_takeRow 47 = .ok (.bipush 107, 2) := nq_d dX11_takeRow_0_g (n := 27) rfl
theorem dX11_takeRow_49 : decode cX11_takeRow 49 = .ok (.bipush 105, 2) := nq_d dX11_takeRow_0_g (n := 28) rfl
theorem dX11_takeRow_51 : decode cX11_takeRow 51 = .ok (.bipush 110, 2) := nq_d dX11_takeRow_0_g (n := 29) rfl
theorem dX11_takeRow_53 : decode cX11_takeRow 53 = .ok (.invokestatic 161, 3) := nq_d dX11_takeRow_0_g (n := 30) rfl
theorem dX11_takeRow_56 : decode cX11_takeRow 56 = .ok (.bipush 100, 2) := nq_d dX11_takeRow_0_g (n := 31) rfl
theorem dX11_takeRow_58 : decode cX11_takeRow 58 = .ok (.invokestatic 165, 3) := nq_d dX11_takeRow_0_g (n := 32) rfl
theorem dX11_takeRow_61 : decode cX11_takeRow 61 = .ok (.invokevirtual 198, 3) := nq_d dX11_takeRow_0_g (n := 33) rfl
theorem dX11_takeRow_64 : decode cX11_takeRow 64 = .ok (.istore_n 1, 1) := nq_d dX11_takeRow_0_g (n := 34) rfl
theorem dX11_takeRow_65 : decode cX11_takeRow 65 = .ok (.iload_n 1, 1) := nq_d dX11_takeRow_0_g (n := 35) rfl
theorem dX11_takeRow_66 : decode cX11_takeRow 66 = .ok (.ifCond .le 7, 3) := nq_d dX11_takeRow_0_g (n := 36) rfl
theorem dX11_takeRow_69 : decode cX11_takeRow 69 = .ok (.iload_n 1, 1) := nq_d dX11_takeRow_0_g (n := 37) rfl
theorem dX11_takeRow_70 : decode cX11_takeRow 70 = .ok (.goto 9, 3) := nq_d dX11_takeRow_0_g (n := 38) rfl
theorem dX11_takeRow_73 : decode cX11_takeRow 73 = .ok (.aload_n 0, 1) := nq_d dX11_takeRow_0_g (n := 39) rfl
noncomputable def dX11_takeRow_74_l : List (Nat × Instr × Nat) := [(74, .iconst 0, 1), (75, .iconst 2, 1), (76, .invokevirtual 195, 3), (79, .istore_n 1, 1), (80, .aload_n 0, 1), (81, .getfield 183, 3), (84, .istore_n 3, 1), (85, .iload_n 1, 1), (86, .ifCond .le 7, 3), (89, .iload_n 1, 1), (90, .goto 21, 3), (93, .aload_n 0, 1), (94, .bipush 119, 2), (96, .bipush 97, 2), (98, .bipush 108, 2), (100, .invokestatic 161, 3), (103, .bipush 107, 2), (105, .invokestatic 165, 3), (108, .invokevirtual 198, 3), (111, .istore_n 1, 1), (112, .iload_n 1, 1), (113, .ifCond .le 7, 3), (116, .iload_n 1, 1), (117, .goto 10, 3), (120, .aload_n 0, 1), (121, .iconst 0, 1), (122, .bipush 99, 2), (124, .invokevirtual 195, 3), (127, .istore_n 1, 1), (128, .iconst 0, 1), (129, .istore 4, 2), (131, .iload 4, 2), (133, .iload_n 2, 1), (134, .if_icmp .ge 49, 3), (137, .iload_n 1, 1), (138, .ifCond .ne 45, 3), (141, .aload_n 0, 1), (142, .getfield 29, 3), (145, .aload_n 0, 1), (146, .getfield 186, 3)]
set_option maxRecDepth 100000 in
theorem dX11_takeRow_74_g : dX11_takeRow_74_l.all (fun x => decide (decode cX11_takeRow x.1 = .ok x.2)) = true := by decide +kernel
theorem dX11_takeRow_74 : decode cX11_takeRow 74 = .ok (.iconst 0, 1) := nq_d dX11_takeRow_74_g (n := 0) rfl
theorem dX11_takeRow_75 : decode cX11_takeRow 75 = .ok (.iconst 2, 1) := nq_d dX11_takeRow_74_g (n := 1) rfl
theorem dX11_takeRow_76 : decode cX11_takeRow 76 = .ok (.invokevirtual 195, 3) := nq_d dX11_takeRow_74_g (n := 2) rfl
theorem dX11_takeRow_79 : decode cX11_takeRow 79 = .ok (.istore_n 1, 1) := nq_d dX11_takeRow_74_g (n := 3) rfl
theorem dX11_takeRow_80 : decode cX11_takeRow 80 = .ok (.aload_n 0, 1) := nq_d dX11_takeRow_74_g (n := 4) rfl
theorem dX11_takeRow_81 : decode cX11_takeRow 81 = .ok (.getfield 183, 3) := nq_d dX11_takeRow_74_g (n := 5) rfl
theorem dX11_takeRow_84 : decode cX11_takeRow 84 = .ok (.istore_n 3, 1) := nq_d dX11_takeRow_74_g (n := 6) rfl
theorem dX11_takeRow_85 : decode cX11_takeRow 85 = .ok (.iload_n 1, 1) := nq_d dX11_takeRow_74_g (n := 7) rfl
theorem dX11_takeRow_86 : decode cX11_takeRow 86 = .ok (.ifCond .le 7, 3) := nq_d dX11_takeRow_74_g (n := 8) rfl
theorem dX11_takeRow_89 : decode cX11_takeRow 89 = .ok (.iload_n 1, 1) := nq_d dX11_takeRow_74_g (n := 9) rfl
theorem dX11_takeRow_90 : decode cX11_takeRow 90 = .ok (.goto 21, 3) := nq_d dX11_takeRow_74_g (n := 10) rfl
theorem dX11_takeRow_93 : decode cX11_takeRow 93 = .ok (.aload_n 0, 1) := nq_d dX11_takeRow_74_g (n := 11) rfl
theorem dX11_takeRow_94 : decode cX11_takeRow 94 = .ok (.bipush 119, 2) := nq_d dX11_takeRow_74_g (n := 12) rfl
theorem dX11_takeRow_96 : decode cX11_takeRow 96 = .ok (.bipush 97, 2) := nq_d dX11_takeRow_74_g (n := 13) rfl
theorem dX11_takeRow_98 : decode cX11_takeRow 98 = .ok (.bipush 108, 2) := nq_d dX11_takeRow_74_g (n := 14) rfl
theorem dX11_takeRow_100 : decode cX11_takeRow 100 = .ok (.invokestatic 161, 3) := nq_d dX11_takeRow_74_g (n := 15) rfl
theorem dX11_takeRow_103 : decode cX11_takeRow 103 = .ok (.bipush 107, 2) := nq_d dX11_takeRow_74_g (n := 16) rfl
theorem dX11_takeRow_105 : decode cX11_takeRow 105 = .ok (.invokestatic 165, 3) := nq_d dX11_takeRow_74_g (n := 17) rfl
theorem dX11_takeRow_108 : decode cX11_takeRow 108 = .ok (.invokevirtual 198, 3) := nq_d dX11_takeRow_74_g (n := 18) rfl
theorem dX11_takeRow_111 : decode cX11_takeRow 111 = .ok (.istore_n 1, 1) := nq_d dX11_takeRow_74_g (n := 19) rfl
theorem dX11_takeRow_112 : decode cX11_takeRow 112 = .ok (.iload_n 1, 1) := nq_d dX11_takeRow_74_g (n := 20) rfl
theorem dX11_takeRow_113 : decode cX11_takeRow 113 = .ok (.ifCond .le 7, 3) := nq_d dX11_takeRow_74_g (n := 21) rfl
theorem dX11_takeRow_116 : decode cX11_takeRow 116 = .ok (.iload_n 1, 1) := nq_d dX11_takeRow_74_g (n := 22) rfl
theorem dX11_takeRow_117 : decode cX11_takeRow 117 = .ok (.goto 10, 3) := nq_d dX11_takeRow_74_g (n := 23) rfl
theorem dX11_takeRow_120 : decode cX11_takeRow 120 = .ok (.aload_n 0, 1) := nq_d dX11_takeRow_74_g (n := 24) rfl
theorem dX11_takeRow_121 : decode cX11_takeRow 121 = .ok (.iconst 0, 1) := nq_d dX11_takeRow_74_g (n := 25) rfl
theorem dX11_takeRow_122 : decode cX11_takeRow 122 = .ok (.bipush 99, 2) := nq_d dX11_takeRow_74_g (n := 26) rfl
theorem dX11_takeRow_124 : decode cX11_takeRow 124 = .ok (.invokevirtual 195, 3) := nq_d dX11_takeRow_74_g (n := 27) rfl
theorem dX11_takeRow_127 : decode cX11_takeRow 127 = .ok (.istore_n 1, 1) := nq_d dX11_takeRow_74_g (n := 28) rfl
theorem dX11_takeRow_128 : decode cX11_takeRow 128 = .ok (.iconst 0, 1) := nq_d dX11_takeRow_74_g (n := 29) rfl
theorem dX11_takeRow_129 : decode cX11_takeRow 129 = .ok (.istore 4, 2) := nq_d dX11_takeRow_74_g (n := 30) rfl
theorem dX11_takeRow_131 : decode cX11_takeRow 131 = .ok (.iload 4, 2) := nq_d dX11_takeRow_74_g (n := 31) rfl
theorem dX11_takeRow_133 : decode cX11_takeRow 133 = .ok (.iload_n 2, 1) := nq_d dX11_takeRow_74_g (n := 32) rfl
theorem dX11_takeRow_134 : decode cX11_takeRow 134 = .ok (.if_icmp .ge 49, 3) := nq_d dX11_takeRow_74_g (n := 33) rfl
theorem dX11_takeRow_137 : decode cX11_takeRow 137 = .ok (.iload_n 1, 1) := nq_d dX11_takeRow_74_g (n := 34) rfl
theorem dX11_takeRow_138 : decode cX11_takeRow 138 = .ok (.ifCond .ne 45, 3) := nq_d dX11_takeRow_74_g (n := 35) rfl
theorem dX11_takeRow_141 : decode cX11_takeRow 141 = .ok (.aload_n 0, 1) := nq_d dX11_takeRow_74_g (n := 36) rfl
theorem dX11_takeRow_142 : decode cX11_takeRow 142 = .ok (.getfield 29, 3) := nq_d dX11_takeRow_74_g (n := 37) rfl
theorem dX11_takeRow_145 : decode cX11_takeRow 145 = .ok (.aload_n 0, 1) := nq_d dX11_takeRow_74_g (n := 38) rfl
theorem dX11_takeRow_146 : decode cX11_takeRow 146 = .ok (.getfield 186, 3) := nq_d dX11_takeRow_74_g (n := 39) rfl
noncomputable def dX11_takeRow_149_l : List (Nat × Instr × Nat) := [(149, .iload_n 3, 1), (150, .iastore, 1), (151, .aload_n 0, 1), (152, .getfield 32, 3), (155, .aload_n 0, 1), (156, .getfield 186, 3), (159, .aload_n 0, 1), (160, .getfield 183, 3), (163, .iload 4, 2), (165, .iadd, 1), (166, .iastore, 1), (167, .aload_n 0, 1), (168, .dup, 1), (169, .getfield 186, 3), (172, .iconst 1, 1), (173, .iadd, 1), (174, .putfield 186, 3), (177, .iinc 4 1, 3), (180, .goto (-49), 3), (183, .iload_n 1, 1), (184, .ireturn, 1)]
set_option maxRecDepth 100000 in
theorem dX11_takeRow_149_g : dX11_takeRow_149_l.all (fun x => decide (decode cX11_takeRow x.1 = .ok x.2)) = true := by decide +kernel
theorem dX11_takeRow_149 : decode cX11_takeRow 149 = .ok (.iload_n 3, 1) := nq_d dX11_takeRow_149_g (n := 0) rfl
theorem dX11_takeRow_150 : decode cX11_takeRow 150 = .ok (.iastore, 1) := nq_d dX11_takeRow_149_g (n := 1) rfl
theorem dX11_takeRow_151 : decode cX11_takeRow 151 = .ok (.aload_n 0, 1) := nq_d dX11_takeRow_149_g (n := 2) rfl
theorem dX11_takeRow_152 : decode cX11_takeRow 152 = .ok (.getfield 32, 3) := nq_d dX11_takeRow_149_g (n := 3) rfl
theorem dX11_takeRow_155 : decode cX11_takeRow 155 = .ok (.aload_n 0, 1) := nq_d dX11_takeRow_149_g (n := 4) rfl
theorem dX11_takeRow_156 : decode cX11_takeRow 156 = .ok (.getfield 186, 3) := nq_d dX11_takeRow_149_g (n := 5) rfl
theorem dX11_takeRow_159 : decode cX11_takeRow 159 = .ok (.aload_n 0, 1) := nq_d dX11_takeRow_149_g (n := 6) rfl
theorem dX11_takeRow_160 : decode cX11_takeRow 160 = .ok (.getfield 183, 3) := nq_d dX11_takeRow_149_g (n := 7) rfl
theorem dX11_takeRow_163 : decode cX11_takeRow 163 = .ok (.iload 4, 2) := nq_d dX11_takeRow_149_g (n := 8) rfl
theorem dX11_takeRow_165 : decode cX11_takeRow 165 = .ok (.iadd, 1) := nq_d dX11_takeRow_149_g (n := 9) rfl
theorem dX11_takeRow_166 : decode cX11_takeRow 166 = .ok (.iastore, 1) := nq_d dX11_takeRow_149_g (n := 10) rfl
theorem dX11_takeRow_167 : decode cX11_takeRow 167 = .ok (.aload_n 0, 1) := nq_d dX11_takeRow_149_g (n := 11) rfl
theorem dX11_takeRow_168 : decode cX11_takeRow 168 = .ok (.dup, 1) := nq_d dX11_takeRow_149_g (n := 12) rfl
theorem dX11_takeRow_169 : decode cX11_takeRow 169 = .ok (.getfield 186, 3) := nq_d dX11_takeRow_149_g (n := 13) rfl
theorem dX11_takeRow_172 : decode cX11_takeRow 172 = .ok (.iconst 1, 1) := nq_d dX11_takeRow_149_g (n := 14) rfl
theorem dX11_takeRow_173 : decode cX11_takeRow 173 = .ok (.iadd, 1) := nq_d dX11_takeRow_149_g (n := 15) rfl
theorem dX11_takeRow_174 : decode cX11_takeRow 174 = .ok (.putfield 186, 3) := nq_d dX11_takeRow_149_g (n := 16) rfl
theorem dX11_takeRow_177 : decode cX11_takeRow 177 = .ok (.iinc 4 1, 3) := nq_d dX11_takeRow_149_g (n := 17) rfl
theorem dX11_takeRow_180 : decode cX11_takeRow 180 = .ok (.goto (-49), 3) := nq_d dX11_takeRow_149_g (n := 18) rfl
theorem dX11_takeRow_183 : decode cX11_takeRow 183 = .ok (.iload_n 1, 1) := nq_d dX11_takeRow_149_g (n := 19) rfl
theorem dX11_takeRow_184 : decode cX11_takeRow 184 = .ok (.ireturn, 1) := nq_d dX11_takeRow_149_g (n := 20) rfl
set_option maxRecDepth 100000 in
theorem ggX11_takeOdds_X11_takeNumber : GoodIn wsX11_takeOdds wsX11_takeNumber := goodIn_sub (sub_c (nq_m (n := 9) rfl) (sub_c (nq_m (n := 10) rfl) (sub_c (nq_m (n := 11) rfl) (sub_c (nq_m (n := 12) rfl) (sub_c (nq_m (n := 3) rfl) (sub_c (nq_m (n := 1) rfl) (sub_c (nq_m (n := 13) rfl) (sub_c (nq_m (n := 14) rfl) (sub_c (nq_m (n := 15) rfl) (sub_c (nq_m (n := 16) rfl) (sub_c (nq_m (n := 17) rfl) (sub_c (nq_m (n := 8) rfl) (sub_c (nq_m (n := 18) rfl) (sub_c (nq_m (n := 19) rfl) (sub_c (nq_m (n := 20) rfl) (sub_c (nq_m (n := 21) rfl) (sub_c (nq_m (n := 22) rfl) (sub_c (nq_m (n := 23) rfl) (sub_c (nq_m (n := 24) rfl) (sub_c (nq_m (n := 25) rfl) (sub_c (nq_m (n := 26) rfl) (sub_c (nq_m (n := 27) rfl) (sub_c (nq_m (n := 28) rfl) (sub_c (nq_m (n := 29) rfl) (sub_c (nq_m (n := 30) rfl) (sub_c (nq_m (n := 31) rfl) (sub_c (nq_m (n := 32) rfl) (sub_c (nq_m (n := 33) rfl) (sub_c (nq_m (n := 34) rfl) (sub_c (nq_m (n := 35) rfl) (sub_c (nq_m (n := 36) rfl) (sub_c (nq_m (n := 37) rfl) (sub_c (nq_m (n := 38) rfl) (sub_c (nq_m (n := 39) rfl) (sub_c (nq_m (n := 40) rfl) (sub_c (nq_m (n := 41) rfl) (sub_c (nq_m (n := 42) rfl) (sub_c (nq_m (n := 43) rfl) (sub_c (nq_m (n := 44) rfl) (sub_c (nq_m (n := 45) rfl) (sub_c (nq_m (n := 46) rfl) (sub_c (nq_m (n := 47) rfl) (sub_c (nq_m (n := 48) rfl) (sub_c (nq_m (n := 49) rfl) (sub_c (nq_m (n := 50) rfl) (sub_c (nq_m (n := 51) rfl) (sub_c (nq_m (n := 52) rfl) (sub_c (nq_m (n := 53) rfl) (sub_c (nq_m (n := 54) rfl) (sub_c (nq_m (n := 55) rfl) (sub_c (nq_m (n := 56) rfl) (sub_c (nq_m (n := 57) rfl) (sub_c (nq_m (n := 58) rfl) (sub_c (nq_m (n := 59) rfl) (sub_c (nq_m (n := 60) rfl) (sub_c (nq_m (n := 61) rfl) (sub_c (nq_m (n := 62) rfl) (sub_c (nq_m (n := 63) rfl) (sub_c (nq_m (n := 64) rfl) (sub_c (nq_m (n := 65) rfl) (sub_c (nq_m (n := 66) rfl) (sub_c (nq_m (n := 67) rfl) (sub_c (nq_m (n := 68) rfl) (sub_c (nq_m (n := 69) rfl) (sub_c (nq_m (n := 70) rfl) (sub_c (nq_m (n := 71) rfl) (sub_c (nq_m (n := 72) rfl) (sub_c (nq_m (n := 73) rfl) (sub_c (nq_m (n := 74) rfl) (sub_c (nq_m (n := 75) rfl) (sub_c (nq_m (n := 76) rfl) (sub_c (nq_m (n := 77) rfl) (sub_c (nq_m (n := 78) rfl) (sub_c (nq_m (n := 79) rfl) (sub_c (nq_m (n := 80) rfl) (sub_c (nq_m (n := 81) rfl) (sub_c (nq_m (n := 82) rfl) (sub_c (nq_m (n := 83) rfl) (sub_c (nq_m (n := 84) rfl) sub_n))))))))))))))))))))))))))))))))))))))))))))))))))))))))))))))))))))))))))))))) (by decide +kernel)
set_option maxRecDepth 100000 in
theorem gX11_takeOdds_X11_takeNumber : GoodIn wsX11_takeOdds (wsV RX11 195 RX11 yX11_takeNumber wsX11_takeNumber) := goodIn_app (goodIn_sub (sub_c (nq_m (n := 5) rfl) (sub_c (nq_m (n := 6) rfl) (sub_c (nq_m (n := 7) rfl) (sub_c (nq_m (n := 8) rfl) sub_n)))) (by decide +kernel)) ggX11_takeOdds_X11_takeNumber
set_option maxRecDepth 100000 in
theorem ggX11_takeOdds_X11_fails : GoodIn wsX11_takeOdds wsX11_fails := goodIn_sub (sub_c (nq_m (n := 25) rfl) (sub_c (nq_m (n := 26) rfl) (sub_c (nq_m (n := 27) rfl) (sub_c (nq_m (n := 28) rfl) (sub_c (nq_m (n := 29) rfl) (sub_c (nq_m (n := 30) rfl) (sub_c (nq_m (n := 31) rfl) (sub_c (nq_m (n := 32) rfl) (sub_c (nq_m (n := 33) rfl) (sub_c (nq_m (n := 34) rfl) (sub_c (nq_m (n := 35) rfl) (sub_c (nq_m (n := 36) rfl) (sub_c (nq_m (n := 37) rfl) (sub_c (nq_m (n := 38) rfl) (sub_c (nq_m (n := 39) rfl) (sub_c (nq_m (n := 40) rfl) (sub_c (nq_m (n := 41) rfl) (sub_c (nq_m (n := 42) rfl) (sub_c (nq_m (n := 43) rfl) (sub_c (nq_m (n := 44) rfl) (sub_c (nq_m (n := 45) rfl) (sub_c (nq_m (n := 46) rfl) (sub_c (nq_m (n := 47) rfl) (sub_c (nq_m (n := 48) rfl) (sub_c (nq_m (n := 49) rfl) (sub_c (nq_m (n := 50) rfl) (sub_c (nq_m (n := 51) rfl) (sub_c (nq_m (n := 52) rfl) (sub_c (nq_m (n := 53) rfl) (sub_c (nq_m (n := 54) rfl) (sub_c (nq_m (n := 55) rfl) (sub_c (nq_m (n := 56) rfl) (sub_c (nq_m (n := 57) rfl) (sub_c (nq_m (n := 58) rfl) (sub_c (nq_m (n := 59) rfl) (sub_c (nq_m (n := 60) rfl) (sub_c (nq_m (n := 61) rfl) (sub_c (nq_m (n := 62) rfl) (sub_c (nq_m (n := 63) rfl) (sub_c (nq_m (n := 64) rfl) (sub_c (nq_m (n := 65) rfl) (sub_c (nq_m (n := 66) rfl) (sub_c (nq_m (n := 67) rfl) (sub_c (nq_m (n := 68) rfl) (sub_c (nq_m (n := 69) rfl) (sub_c (nq_m (n := 70) rfl) (sub_c (nq_m (n := 71) rfl) (sub_c (nq_m (n := 72) rfl) (sub_c (nq_m (n := 73) rfl) (sub_c (nq_m (n := 74) rfl) (sub_c (nq_m (n := 75) rfl) (sub_c (nq_m (n := 76) rfl) (sub_c (nq_m (n := 77) rfl) (sub_c (nq_m (n := 78) rfl) (sub_c (nq_m (n := 79) rfl) (sub_c (nq_m (n := 80) rfl) (sub_c (nq_m (n := 81) rfl) (sub_c (nq_m (n := 82) rfl) (sub_c (nq_m (n := 83) rfl) (sub_c (nq_m (n := 84) rfl) sub_n)))))))))))))))))))))))))))))))))))))))))))))))))))))))))))) (by decide +kernel)
set_option maxRecDepth 100000 in
theorem gX11_takeOdds_X11_fails : GoodIn wsX11_takeOdds (wsV RX11 172 RX11 yX11_fails wsX11_fails) := goodIn_app (goodIn_sub (sub_c (nq_m (n := 22) rfl) (sub_c (nq_m (n := 23) rfl) (sub_c (nq_m (n := 24) rfl) (sub_c (nq_m (n := 8) rfl) sub_n)))) (by decide +kernel)) ggX11_takeOdds_X11_fails
noncomputable def dX11_takeOdds_0_l : List (Nat × Instr × Nat) := [(0, .aload_n 0, 1), (1, .iconst 0, 1), (2, .iconst 3, 1), (3, .invokevirtual 195, 3), (6, .istore_n 1, 1), (7, .aload_n 0, 1), (8, .getfield 183, 3), (11, .istore_n 2, 1), (12, .iload_n 1, 1), (13, .ifCond .ne 25, 3), (16, .aload_n 0, 1), (17, .getfield 192, 3), (20, .iload_n 2, 1), (21, .ishr, 1), (22, .iconst 1, 1), (23, .iand, 1), (24, .iconst 1, 1), (25, .if_icmp .ne 13, 3), (28, .aload_n 0, 1), (29, .iconst 3, 1), (30, .aload_n 0, 1), (31, .getfield 180, 3), (34, .invokevirtual 172, 3), (37, .istore_n 1, 1), (38, .iconst 0, 1), (39, .istore_n 3, 1), (40, .iconst 0, 1), (41, .istore 4, 2), (43, .iload 4, 2), (45, .iconst 3, 1), (46, .if_icmp .ge 43, 3), (49, .iload_n 1, 1), (50, .ifCond .ne 39, 3), (53, .aload_n 0, 1), (54, .iconst 0, 1), (55, .bipush 100, 2), (57, .invokevirtual 195, 3), (60, .istore_n 1, 1), (61, .aload_n 0, 1), (62, .getfield 35, 3)]
set_option maxRecDepth 100000 in
theorem dX11_takeOdds_0_g : dX11_takeOdds_0_l.all (fun x => decide (decode cX11_takeOdds x.1 = .ok x.2)) = true := by decide +kernel
theorem dX11_takeOdds_0 : decode cX11_takeOdds 0 = .ok (.aload_n 0, 1) := nq_d dX11_takeOdds_0_g (n := 0) rfl
theorem dX11_takeOdds_1 : decode cX11_takeOdds 1 = .ok (.iconst 0, 1) := nq_d dX11_takeOdds_0_g (n := 1) rfl
theorem dX11_takeOdds_2 : decode cX11_takeOdds 2 = .ok (.iconst 3, 1) := nq_d dX11_takeOdds_0_g (n := 2) rfl
theorem dX11_takeOdds_3 : decode cX11_takeOdds 3 = .ok (.invokevirtual 195, 3) := nq_d dX11_takeOdds_0_g (n := 3) rfl
theorem dX11_takeOdds_6 : decode cX11_takeOdds 6 = .ok (.istore_n 1, 1) := nq_d dX11_takeOdds_0_g (n := 4) rfl
theorem dX11_takeOdds_7 : decode cX11_takeOdds 7 = .ok (.aload_n 0, 1) := nq_d dX11_takeOdds_0_g (n := 5) rfl
theorem dX11_takeOdds_8 : decode cX11_takeOdds 8 = .ok (.getfield 183, 3) := nq_d dX11_takeOdds_0_g (n := 6) rfl
theorem dX11_takeOdds_11 : decode cX11_takeOdds 11 = .ok (.istore_n 2, 1) := nq_d dX11_takeOdds_0_g (n := 7) rfl
theorem dX11_takeOdds_12 : decode cX11_takeOdds 12 = .ok (.iload_n 1, 1) := nq_d dX11_takeOdds_0_g (n := 8) rfl
theorem dX11_takeOdds_13 : decode cX11_takeOdds 13 = .ok (.ifCond .ne 25, 3) := nq_d dX11_takeOdds_0_g (n := 9) rfl
theorem dX11_takeOdds_16 : decode cX11_takeOdds 16 = .ok (.aload_n 0, 1) := nq_d dX11_takeOdds_0_g (n := 10) rfl
theorem dX11_takeOdds_17 : decode cX11_takeOdds 17 = .ok (.getfield 192, 3) := nq_d dX11_takeOdds_0_g (n := 11) rfl
theorem dX11_takeOdds_20 : decode cX11_takeOdds 20 = .ok (.iload_n 2, 1) := nq_d dX11_takeOdds_0_g (n := 12) rfl
theorem dX11_takeOdds_21 : decode cX11_takeOdds 21 = .ok (.ishr, 1) := nq_d dX11_takeOdds_0_g (n := 13) rfl
theorem dX11_takeOdds_22 : decode cX11_takeOdds 22 = .ok (.iconst 1, 1) := nq_d dX11_takeOdds_0_g (n := 14) rfl
theorem dX11_takeOdds_23 : decode cX11_takeOdds 23 = .ok (.iand, 1) := nq_d dX11_takeOdds_0_g (n := 15) rfl
theorem dX11_takeOdds_24 : decode cX11_takeOdds 24 = .ok (.iconst 1, 1) := nq_d dX11_takeOdds_0_g (n := 16) rfl
theorem dX11_takeOdds_25 : decode cX11_takeOdds 25 = .ok (.if_icmp .ne 13, 3) := nq_d dX11_takeOdds_0_g (n := 17) rfl
theorem dX11_takeOdds_28 : decode cX11_takeOdds 28 = .ok (.aload_n 0, 1) := nq_d dX11_takeOdds_0_g (n := 18) rfl
theorem dX11_takeOdds_29 : decode cX11_takeOdds 29 = .ok (.iconst 3, 1) := nq_d dX11_takeOdds_0_g (n := 19) rfl
theorem dX11_takeOdds_30 : decode cX11_takeOdds 30 = .ok (.aload_n 0, 1) := nq_d dX11_takeOdds_0_g (n := 20) rfl
theorem dX11_takeOdds_31 : decode cX11_takeOdds 31 = .ok (.getfield 180, 3) := nq_d dX11_takeOdds_0_g (n := 21) rfl
theorem dX11_takeOdds_34 : decode cX11_takeOdds 34 = .ok (.invokevirtual 172, 3) := nq_d dX11_takeOdds_0_g (n := 22) rfl
theorem dX11_takeOdds_37 : decode cX11_takeOdds 37 = .ok (.istore_n 1, 1) := nq_d dX11_takeOdds_0_g (n := 23) rfl
theorem dX11_takeOdds_38 : decode cX11_takeOdds 38 = .ok (.iconst 0, 1) := nq_d dX11_takeOdds_0_g (n := 24) rfl
theorem dX11_takeOdds_39 : decode cX11_takeOdds 39 = .ok (.istore_n 3, 1) := nq_d dX11_takeOdds_0_g (n := 25) rfl
theorem dX11_takeOdds_40 : decode cX11_takeOdds 40 = .ok (.iconst 0, 1) := nq_d dX11_takeOdds_0_g (n := 26) rfl
theorem dX11_takeOdds_41 : decode cX11_takeOdds 41 = .ok (.istore 4, 2) := nq_d dX11_takeOdds_0_g (n := 27) rfl
theorem dX11_takeOdds_43 : decode cX11_takeOdds 43 = .ok (.iload 4, 2) := nq_d dX11_takeOdds_0_g (n := 28) rfl
theorem dX11_takeOdds_45 : decode cX11_takeOdds 45 = .ok (.iconst 3, 1) := nq_d dX11_takeOdds_0_g (n := 29) rfl
theorem dX11_takeOdds_46 : decode cX11_takeOdds 46 = .ok (.if_icmp .ge 43, 3) := nq_d dX11_takeOdds_0_g (n := 30) rfl
theorem dX11_takeOdds_49 : decode cX11_takeOdds 49 = .ok (.iload_n 1, 1) := nq_d dX11_takeOdds_0_g (n := 31) rfl
theorem dX11_takeOdds_50 : decode cX11_takeOdds 50 = .ok (.ifCond .ne 39, 3) := nq_d dX11_takeOdds_0_g (n := 32) rfl
theorem dX11_takeOdds_53 : decode cX11_takeOdds 53 = .ok (.aload_n 0, 1) := nq_d dX11_takeOdds_0_g (n := 33) rfl
theorem dX11_takeOdds_54 : decode cX11_takeOdds 54 = .ok (.iconst 0, 1) := nq_d dX11_takeOdds_0_g (n := 34) rfl
theorem dX11_takeOdds_55 : decode cX11_takeOdds 55 = .ok (.bipush 100, 2) := nq_d dX11_takeOdds_0_g (n := 35) rfl
theorem dX11_takeOdds_57 : decode cX11_takeOdds 57 = .ok (.invokevirtual 195, 3) := nq_d dX11_takeOdds_0_g (n := 36) rfl
theorem dX11_takeOdds_60 : decode cX11_takeOdds 60 = .ok (.istore_n 1, 1) := nq_d dX11_takeOdds_0_g (n := 37) rfl
theorem dX11_takeOdds_61 : decode cX11_takeOdds 61 = .ok (.aload_n 0, 1) := nq_d dX11_takeOdds_0_g (n := 38) rfl
theorem dX11_takeOdds_62 : decode cX11_takeOdds 62 = .ok (.getfield 35, 3) := nq_d dX11_takeOdds_0_g (n := 39) rfl
noncomputable def dX11_takeOdds_65_l : List (Nat × Instr × Nat) := [(65, .iconst 3, 1), (66, .iload_n 2, 1), (67, .imul, 1), (68, .iload 4, 2), (70, .iadd, 1), (71, .aload_n 0, 1), (72, .getfield 183, 3), (75, .iastore, 1), (76, .iload_n 3, 1), (77, .aload_n 0, 1), (78, .getfield 183, 3), (81, .iadd, 1), (82, .istore_n 3, 1), (83, .iinc 4 1, 3), (86, .goto (-43), 3), (89, .iload_n 1, 1), (90, .ifCond .le 5, 3), (93, .iload_n 1, 1), (94, .ireturn, 1), (95, .aload_n 0, 1), (96, .dup, 1), (97, .getfield 192, 3), (100, .iconst 1, 1), (101, .iload_n 2, 1), (102, .ishl, 1), (103, .ior, 1), (104, .putfield 192, 3), (107, .iload_n 3, 1), (108, .bipush 100, 2), (110, .if_icmp .eq 15, 3), (113, .aload_n 0, 1), (114, .iconst 5, 1), (115, .aload_n 0, 1), (116, .getfield 180, 3), (119, .invokevirtual 172, 3), (122, .goto 4, 3), (125, .iconst 0, 1), (126, .ireturn, 1)]
set_option maxRecDepth 100000 in
theorem dX11_takeOdds_65_g : dX11_takeOdds_65_l.all (fun x => decide (decode cX11_takeOdds x.1 = .ok x.2)) = true := by decide +kernel
theorem dX11_takeOdds_65 : decode cX11_takeOdds 65 = .ok (.iconst 3, 1) := nq_d dX11_takeOdds_65_g (n := 0) rfl
theorem dX11_takeOdds_66 : decode cX11_takeOdds 66 = .ok (.iload_n 2, 1) := nq_d dX11_takeOdds_65_g (n := 1) rfl
theorem dX11_takeOdds_67 : decode cX11_takeOdds 67 = .ok (.imul, 1) := nq_d dX11_takeOdds_65_g (n := 2) rfl
theorem dX11_takeOdds_68 : decode cX11_takeOdds 68 = .ok (.iload 4, 2) := nq_d dX11_takeOdds_65_g (n := 3) rfl
theorem dX11_takeOdds_70 : decode cX11_takeOdds 70 = .ok (.iadd, 1) := nq_d dX11_takeOdds_65_g (n := 4) rfl
theorem dX11_takeOdds_71 : decode cX11_takeOdds 71 = .ok (.aload_n 0, 1) := nq_d dX11_takeOdds_65_g (n := 5) rfl
theorem dX11_takeOdds_72 : decode cX11_takeOdds 72 = .ok (.getfield 183, 3) := nq_d dX11_takeOdds_65_g (n := 6) rfl
theorem dX11_takeOdds_75 : decode cX11_takeOdds 75 = .ok (.iastore, 1) := nq_d dX11_takeOdds_65_g (n := 7) rfl
theorem dX11_takeOdds_76 : decode cX11_takeOdds 76 = .ok (.iload_n 3, 1) := nq_d dX11_takeOdds_65_g (n := 8) rfl
theorem dX11_takeOdds_77 : decode cX11_takeOdds 77 = .ok (.aload_n 0, 1) := nq_d dX11_takeOdds_65_g (n := 9) rfl
theorem dX11_takeOdds_78 : decode cX11_takeOdds 78 = .ok (.getfield 183, 3) := nq_d dX11_takeOdds_65_g (n := 10) rfl
theorem dX11_takeOdds_81 : decode cX11_takeOdds 81 = .ok (.iadd, 1) := nq_d dX11_takeOdds_65_g (n := 11) rfl
theorem dX11_takeOdds_82 : decode cX11_takeOdds 82 = .ok (.istore_n 3, 1) := nq_d dX11_takeOdds_65_g (n := 12) rfl
theorem dX11_takeOdds_83 : decode cX11_takeOdds 83 = .ok (.iinc 4 1, 3) := nq_d dX11_takeOdds_65_g (n := 13) rfl
theorem dX11_takeOdds_86 : decode cX11_takeOdds 86 = .ok (.goto (-43), 3) := nq_d dX11_takeOdds_65_g (n := 14) rfl
theorem dX11_takeOdds_89 : decode cX11_takeOdds 89 = .ok (.iload_n 1, 1) := nq_d dX11_takeOdds_65_g (n := 15) rfl
theorem dX11_takeOdds_90 : decode cX11_takeOdds 90 = .ok (.ifCond .le 5, 3) := nq_d dX11_takeOdds_65_g (n := 16) rfl
theorem dX11_takeOdds_93 : decode cX11_takeOdds 93 = .ok (.iload_n 1, 1) := nq_d dX11_takeOdds_65_g (n := 17) rfl
theorem dX11_takeOdds_94 : decode cX11_takeOdds 94 = .ok (.ireturn, 1) := nq_d dX11_takeOdds_65_g (n := 18) rfl
theorem dX11_takeOdds_95 : decode cX11_takeOdds 95 = .ok (.aload_n 0, 1) := nq_d dX11_takeOdds_65_g (n := 19) rfl
theorem dX11_takeOdds_96 : decode cX11_takeOdds 96 = .ok (.dup, 1) := nq_d dX11_takeOdds_65_g (n := 20) rfl
theorem dX11_takeOdds_97 : decode cX11_takeOdds 97 = .ok (.getfield 192, 3) := nq_d dX11_takeOdds_65_g (n := 21) rfl
theorem dX11_takeOdds_100 : decode cX11_takeOdds 100 = .ok (.iconst 1, 1) := nq_d dX11_takeOdds_65_g (n := 22) rfl
theorem dX11_takeOdds_101 : decode cX11_takeOdds 101 = .ok (.iload_n 2, 1) := nq_d dX11_takeOdds_65_g (n := 23) rfl
theorem dX11_takeOdds_102 : decode cX11_takeOdds 102 = .ok (.ishl, 1) := nq_d dX11_takeOdds_65_g (n := 24) rfl
theorem dX11_takeOdds_103 : decode cX11_takeOdds 103 = .ok (.ior, 1) := nq_d dX11_takeOdds_65_g (n := 25) rfl
theorem dX11_takeOdds_104 : decode cX11_takeOdds 104 = .ok (.putfield 192, 3) := nq_d dX11_takeOdds_65_g (n := 26) rfl
theorem dX11_takeOdds_107 : decode cX11_takeOdds 107 = .ok (.iload_n 3, 1) := nq_d dX11_takeOdds_65_g (n := 27) rfl
theorem dX11_takeOdds_108 : decode cX11_takeOdds 108 = .ok (.bipush 100, 2) := nq_d dX11_takeOdds_65_g (n := 28) rfl
theorem dX11_takeOdds_110 : decode cX11_takeOdds 110 = .ok (.if_icmp .eq 15, 3) := nq_d dX11_takeOdds_65_g (n := 29) rfl
theorem dX11_takeOdds_113 : decode cX11_takeOdds 113 = .ok (.aload_n 0, 1) := nq_d dX11_takeOdds_65_g (n := 30) rfl
theorem dX11_takeOdds_114 : decode cX11_takeOdds 114 = .ok (.iconst 5, 1) := nq_d dX11_takeOdds_65_g (n := 31) rfl
theorem dX11_takeOdds_115 : decode cX11_takeOdds 115 = .ok (.aload_n 0, 1) := nq_d dX11_takeOdds_65_g (n := 32) rfl
theorem dX11_takeOdds_116 : decode cX11_takeOdds 116 = .ok (.getfield 180, 3) := nq_d dX11_takeOdds_65_g (n := 33) rfl
theorem dX11_takeOdds_119 : decode cX11_takeOdds 119 = .ok (.invokevirtual 172, 3) := nq_d dX11_takeOdds_65_g (n := 34) rfl
theorem dX11_takeOdds_122 : decode cX11_takeOdds 122 = .ok (.goto 4, 3) := nq_d dX11_takeOdds_65_g (n := 35) rfl
theorem dX11_takeOdds_125 : decode cX11_takeOdds 125 = .ok (.iconst 0, 1) := nq_d dX11_takeOdds_65_g (n := 36) rfl
theorem dX11_takeOdds_126 : decode cX11_takeOdds 126 = .ok (.ireturn, 1) := nq_d dX11_takeOdds_65_g (n := 37) rfl
set_option maxRecDepth 100000 in
theorem ggX11_takeSingles_X11_takeNumber : GoodIn wsX11_takeSingles wsX11_takeNumber := goodIn_sub (sub_c (nq_m (n := 7) rfl) (sub_c (nq_m (n := 8) rfl) (sub_c (nq_m (n := 9) rfl) (sub_c (nq_m (n := 10) rfl) (sub_c (nq_m (n := 11) rfl) (sub_c (nq_m (n := 2) rfl) (sub_c (nq_m (n := 12) rfl) (sub_c (nq_m (n := 13) rfl) (sub_c (nq_m (n := 14) rfl) (sub_c (nq_m (n := 15) rfl) (sub_c (nq_m (n := 16) rfl) (sub_c (nq_m (n := 6) rfl) (sub_c (nq_m (n := 17) rfl) (sub_c (nq_m (n := 18) rfl) (sub_c (nq_m (n := 19) rfl) (sub_c (nq_m (n := 20) rfl) (sub_c (nq_m (n := 21) rfl) (sub_c (nq_m (n := 22) rfl) (sub_c (nq_m (n := 23) rfl) (sub_c (nq_m (n := 24) rfl) (sub_c (nq_m (n := 25) rfl) (sub_c (nq_m (n := 26) rfl) (sub_c (nq_m (n := 27) rfl) (sub_c (nq_m (n := 28) rfl) (sub_c (nq_m (n := 29) rfl) (sub_c (nq_m (n := 30) rfl) (sub_c (nq_m (n := 31) rfl) (sub_c (nq_m (n := 32) rfl) (sub_c (nq_m (n := 33) rfl) (sub_c (nq_m (n := 34) rfl) (sub_c (nq_m (n := 35) rfl) (sub_c (nq_m (n := 36) rfl) (sub_c (nq_m (n := 37) rfl) (sub_c (nq_m (n := 38) rfl) (sub_c (nq_m (n := 39) rfl) (sub_c (nq_m (n := 40) rfl) (sub_c (nq_m (n := 41) rfl) (sub_c (nq_m (n := 42) rfl) (sub_c (nq_m (n := 43) rfl) (sub_c (nq_m (n := 44) rfl) (sub_c (nq_m (n := 45) rfl) (sub_c (nq_m (n := 46) rfl) (sub_c (nq_m (n := 47) rfl) (sub_c (nq_m (n := 48) rfl) (sub_c (nq_m (n := 49) rfl) (sub_c (nq_m (n := 50) rfl) (sub_c (nq_m (n := 51) rfl) (sub_c (nq_m (n := 52) rfl) (sub_c (nq_m (n := 53) rfl) (sub_c (nq_m (n := 54) rfl) (sub_c (nq_m (n := 55) rfl) (sub_c (nq_m (n := 56) rfl) (sub_c (nq_m (n := 57) rfl) (sub_c (nq_m (n := 58) rfl) (sub_c (nq_m (n := 59) rfl) (sub_c (nq_m (n := 60) rfl) (sub_c (nq_m (n := 61) rfl) (sub_c (nq_m (n := 62) rfl) (sub_c (nq_m (n := 63) rfl) (sub_c (nq_m (n := 64) rfl) (sub_c (nq_m (n := 65) rfl) (sub_c (nq_m (n := 66) rfl) (sub_c (nq_m (n := 67) rfl) (sub_c (nq_m (n := 68) rfl) (sub_c (nq_m (n := 69) rfl) (sub_c (nq_m (n := 70) rfl) (sub_c (nq_m (n := 71) rfl) (sub_c (nq_m (n := 72) rfl) (sub_c (nq_m (n := 73) rfl) (sub_c (nq_m (n := 74) rfl) (sub_c (nq_m (n := 75) rfl) (sub_c (nq_m (n := 76) rfl) (sub_c (nq_m (n := 77) rfl) (sub_c (nq_m (n := 78) rfl) (sub_c (nq_m (n := 79) rfl) (sub_c (nq_m (n := 80) rfl) (sub_c (nq_m (n := 81) rfl) (sub_c (nq_m (n := 82) rfl) (sub_c (nq_m (n := 83) rfl) sub_n))))))))))))))))))))))))))))))))))))))))))))))))))))))))))))))))))))))))))))))) (by decide +kernel)
set_option maxRecDepth 100000 in
theorem gX11_takeSingles_X11_takeNumber : GoodIn wsX11_takeSingles (wsV RX11 195 RX11 yX11_takeNumber wsX11_takeNumber) := goodIn_app (goodIn_sub (sub_c (nq_m (n := 3) rfl) (sub_c (nq_m (n := 4) rfl) (sub_c (nq_m (n := 5) rfl) (sub_c (nq_m (n := 6) rfl) sub_n)))) (by decide +kernel)) ggX11_takeSingles_X11_takeNumber
noncomputable def dX11_takeSingles_0_l : List (Nat × Instr × Nat) := [(0, .iconst 0, 1), (1, .istore_n 2, 1), (2, .iload_n 1, 1), (3, .iconst 2, 1), (4, .if_icmp .ne 7, 3), (7, .iconst 0, 1), (8, .goto 4, 3), (11, .iload_n 1, 1), (12, .istore_n 3, 1), (13, .iload_n 1, 1), (14, .iconst 2, 1), (15, .if_icmp .ne 7, 3), (18, .iconst 2, 1), (19, .goto 4, 3), (22, .iload_n 1, 1), (23, .istore 4, 2), (25, .iload_n 3, 1), (26, .istore 5, 2), (28, .iload 5, 2), (30, .iload 4, 2), (32, .if_icmp .gt 42, 3), (35, .iload_n 2, 1), (36, .ifCond .ne 38, 3), (39, .aload_n 0, 1), (40, .iconst 0, 1), (41, .iload_n 1, 1), (42, .iconst 2, 1), (43, .if_icmp .ne 8, 3), (46, .bipush 9, 2), (48, .goto 5, 3), (51, .bipush 20, 2), (53, .invokevirtual 195, 3), (56, .istore_n 2, 1), (57, .aload_n 0, 1), (58, .getfield 38, 3), (61, .iload 5, 2), (63, .aload_n 0, 1), (64, .getfield 183, 3), (67, .iastore, 1), (68, .iinc 5 1, 3)]
set_option maxRecDepth 100000 in
theorem dX11_takeSingles_0_g : dX11_takeSingles_0_l.all (fun x => decide (decode cX11_takeSingles x.1 = .ok x.2)) = true := by decide +kernel
theorem dX11_takeSingles_0 : decode cX11_takeSingles 0 = .ok (.iconst 0, 1) := nq_d dX11_takeSingles_0_g (n := 0) rfl
theorem dX11_takeSingles_1 : decode cX11_takeSingles 1 = .ok (.istore_n 2, 1) := nq_d dX11_takeSingles_0_g (n := 1) rfl
theorem dX11_takeSingles_2 : decode cX11_takeSingles 2 = .ok (.iload_n 1, 1) := nq_d dX11_takeSingles_0_g (n := 2) rfl
theorem dX11_takeSingles_3 : decode cX11_takeSingles 3 = .ok (.iconst 2, 1) := nq_d dX11_takeSingles_0_g (n := 3) rfl
theorem dX11_takeSingles_4 : decode cX11_takeSingles 4 = .ok (.if_icmp .ne 7, 3) := nq_d dX11_takeSingles_0_g (n := 4) rfl
theorem dX11_takeSingles_7 : decode cX11_takeSingles 7 = .ok (.iconst 0, 1) := nq_d dX11_takeSingles_0_g (n := 5) rfl
theorem dX11_takeSingles_8 : decode cX11_takeSingles 8 = .ok (.goto 4, 3) := nq_d dX11_takeSingles_0_g (n := 6) rfl
theorem dX11_takeSingles_11 : decode cX11_takeSingles 11 = .ok (.iload_n 1, 1) := nq_d dX11_takeSingles_0_g (n := 7) rfl
theorem dX11_takeSingles_12 : decode cX11_takeSingles 12 = .ok (.istore_n 3, 1) := nq_d dX11_takeSingles_0_g (n := 8) rfl
theorem dX11_takeSingles_13 : decode cX11_takeSingles 13 = .ok (.iload_n 1, 1) := nq_d dX11_takeSingles_0_g (n := 9) rfl
theorem dX11_takeSingles_14 : decode cX11_takeSingles 14 = .ok (.iconst 2, 1) := nq_d dX11_takeSingles_0_g (n := 10) rfl
theorem dX11_takeSingles_15 : decode cX11_takeSingles 15 = .ok (.if_icmp .ne 7, 3) := nq_d dX11_takeSingles_0_g (n := 11) rfl
theorem dX11_takeSingles_18 : decode cX11_takeSingles 18 = .ok (.iconst 2, 1) := nq_d dX11_takeSingles_0_g (n := 12) rfl
theorem dX11_takeSingles_19 : decode cX11_takeSingles 19 = .ok (.goto 4, 3) := nq_d dX11_takeSingles_0_g (n := 13) rfl
theorem dX11_takeSingles_22 : decode cX11_takeSingles 22 = .ok (.iload_n 1, 1) := nq_d dX11_takeSingles_0_g (n := 14) rfl
theorem dX11_takeSingles_23 : decode cX11_takeSingles 23 = .ok (.istore 4, 2) := nq_d dX11_takeSingles_0_g (n := 15) rfl
theorem dX11_takeSingles_25 : decode cX11_takeSingles 25 = .ok (.iload_n 3, 1) := nq_d dX11_takeSingles_0_g (n := 16) rfl
theorem dX11_takeSingles_26 : decode cX11_takeSingles 26 = .ok (.istore 5, 2) := nq_d dX11_takeSingles_0_g (n := 17) rfl
theorem dX11_takeSingles_28 : decode cX11_takeSingles 28 = .ok (.iload 5, 2) := nq_d dX11_takeSingles_0_g (n := 18) rfl
theorem dX11_takeSingles_30 : decode cX11_takeSingles 30 = .ok (.iload 4, 2) := nq_d dX11_takeSingles_0_g (n := 19) rfl
theorem dX11_takeSingles_32 : decode cX11_takeSingles 32 = .ok (.if_icmp .gt 42, 3) := nq_d dX11_takeSingles_0_g (n := 20) rfl
theorem dX11_takeSingles_35 : decode cX11_takeSingles 35 = .ok (.iload_n 2, 1) := nq_d dX11_takeSingles_0_g (n := 21) rfl
theorem dX11_takeSingles_36 : decode cX11_takeSingles 36 = .ok (.ifCond .ne 38, 3) := nq_d dX11_takeSingles_0_g (n := 22) rfl
theorem dX11_takeSingles_39 : decode cX11_takeSingles 39 = .ok (.aload_n 0, 1) := nq_d dX11_takeSingles_0_g (n := 23) rfl
theorem dX11_takeSingles_40 : decode cX11_takeSingles 40 = .ok (.iconst 0, 1) := nq_d dX11_takeSingles_0_g (n := 24) rfl
theorem dX11_takeSingles_41 : decode cX11_takeSingles 41 = .ok (.iload_n 1, 1) := nq_d dX11_takeSingles_0_g (n := 25) rfl
theorem dX11_takeSingles_42 : decode cX11_takeSingles 42 = .ok (.iconst 2, 1) := nq_d dX11_takeSingles_0_g (n := 26) rfl
theorem dX11_takeSingles_43 : decode cX11_takeSingles 43 = .ok (.if_icmp .ne 8, 3) := nq_d dX11_takeSingles_0_g (n := 27) rfl
theorem dX11_takeSingles_46 : decode cX11_takeSingles 46 = .ok (.bipush 9, 2) := nq_d dX11_takeSingles_0_g (n := 28) rfl
theorem dX11_takeSingles_48 : decode cX11_takeSingles 48 = .ok (.goto 5, 3) := nq_d dX11_takeSingles_0_g (n := 29) rfl
theorem dX11_takeSingles_51 : decode cX11_takeSingles 51 = .ok (.bipush 20, 2) := nq_d dX11_takeSingles_0_g (n := 30) rfl
theorem dX11_takeSingles_53 : decode cX11_takeSingles 53 = .ok (.invokevirtual 195, 3) := nq_d dX11_takeSingles_0_g (n := 31) rfl
theorem dX11_takeSingles_56 : decode cX11_takeSingles 56 = .ok (.istore_n 2, 1) := nq_d dX11_takeSingles_0_g (n := 32) rfl
theorem dX11_takeSingles_57 : decode cX11_takeSingles 57 = .ok (.aload_n 0, 1) := nq_d dX11_takeSingles_0_g (n := 33) rfl
theorem dX11_takeSingles_58 : decode cX11_takeSingles 58 = .ok (.getfield 38, 3) := nq_d dX11_takeSingles_0_g (n := 34) rfl
theorem dX11_takeSingles_61 : decode cX11_takeSingles 61 = .ok (.iload 5, 2) := nq_d dX11_takeSingles_0_g (n := 35) rfl
theorem dX11_takeSingles_63 : decode cX11_takeSingles 63 = .ok (.aload_n 0, 1) := nq_d dX11_takeSingles_0_g (n := 36) rfl
theorem dX11_takeSingles_64 : decode cX11_takeSingles 64 = .ok (.getfield 183, 3) := nq_d dX11_takeSingles_0_g (n := 37) rfl
theorem dX11_takeSingles_67 : decode cX11_takeSingles 67 = .ok (.iastore, 1) := nq_d dX11_takeSingles_0_g (n := 38) rfl
theorem dX11_takeSingles_68 : decode cX11_takeSingles 68 = .ok (.iinc 5 1, 3) := nq_d dX11_takeSingles_0_g (n := 39) rfl
noncomputable def dX11_takeSingles_71_l : List (Nat × Instr × Nat) := [(71, .goto (-43), 3), (74, .iload_n 2, 1), (75, .ireturn, 1)]
set_option maxRecDepth 100000 in
theorem dX11_takeSingles_71_g : dX11_takeSingles_71_l.all (fun x => decide (decode cX11_takeSingles x.1 = .ok x.2)) = true := by decide +kernel
theorem dX11_takeSingles_71 : decode cX11_takeSingles 71 = .ok (.goto (-43), 3) := nq_d dX11_takeSingles_71_g (n := 0) rfl
theorem dX11_takeSingles_74 : decode cX11_takeSingles 74 = .ok (.iload_n 2, 1) := nq_d dX11_takeSingles_71_g (n := 1) rfl
theorem dX11_takeSingles_75 : decode cX11_takeSingles 75 = .ok (.ireturn, 1) := nq_d dX11_takeSingles_71_g (n := 2) rfl
set_option maxRecDepth 100000 in
theorem ggX11_takeClause_X11_readWord : GoodIn wsX11_takeClause wsX11_readWord := goodIn_sub (sub_c (nq_m (n := 8) rfl) (sub_c (nq_m (n := 9) rfl) (sub_c (nq_m (n := 2) rfl) (sub_c (nq_m (n := 3) rfl) (sub_c (nq_m (n := 10) rfl) (sub_c (nq_m (n := 11) rfl) (sub_c (nq_m (n := 12) rfl) (sub_c (nq_m (n := 13) rfl) (sub_c (nq_m (n := 14) rfl) (sub_c (nq_m (n := 15) rfl) (sub_c (nq_m (n := 16) rfl) (sub_c (nq_m (n := 17) rfl) (sub_c (nq_m (n := 18) rfl) (sub_c (nq_m (n := 19) rfl) (sub_c (nq_m (n := 20) rfl) (sub_c (nq_m (n := 7) rfl) (sub_c (nq_m (n := 21) rfl) (sub_c (nq_m (n := 22) rfl) (sub_c (nq_m (n := 23) rfl) (sub_c (nq_m (n := 24) rfl) (sub_c (nq_m (n := 70) rfl) (sub_c (nq_m (n := 71) rfl) (sub_c (nq_m (n := 72) rfl) (sub_c (nq_m (n := 73) rfl) (sub_c (nq_m (n := 74) rfl) (sub_c (nq_m (n := 75) rfl) (sub_c (nq_m (n := 76) rfl) (sub_c (nq_m (n := 77) rfl) (sub_c (nq_m (n := 78) rfl) (sub_c (nq_m (n := 79) rfl) (sub_c (nq_m (n := 80) rfl) (sub_c (nq_m (n := 81) rfl) (sub_c (nq_m (n := 82) rfl) (sub_c (nq_m (n := 83) rfl) (sub_c (nq_m (n := 84) rfl) (sub_c (nq_m (n := 85) rfl) (sub_c (nq_m (n := 86) rfl) (sub_c (nq_m (n := 87) rfl) (sub_c (nq_m (n := 88) rfl) (sub_c (nq_m (n := 89) rfl) (sub_c (nq_m (n := 90) rfl) (sub_c (nq_m (n := 91) rfl) (sub_c (nq_m (n := 92) rfl) (sub_c (nq_m (n := 93) rfl) (sub_c (nq_m (n := 94) rfl) (sub_c (nq_m (n := 95) rfl) (sub_c (nq_m (n := 96) rfl) (sub_c (nq_m (n := 97) rfl) (sub_c (nq_m (n := 98) rfl) (sub_c (nq_m (n := 99) rfl) (sub_c (nq_m (n := 100) rfl) (sub_c (nq_m (n := 101) rfl) (sub_c (nq_m (n := 102) rfl) (sub_c (nq_m (n := 103) rfl) (sub_c (nq_m (n := 104) rfl) (sub_c (nq_m (n := 105) rfl) (sub_c (nq_m (n := 106) rfl) (sub_c (nq_m (n := 107) rfl) (sub_c (nq_m (n := 108) rfl) (sub_c (nq_m (n := 109) rfl) (sub_c (nq_m (n := 110) rfl) (sub_c (nq_m (n := 111) rfl) (sub_c (nq_m (n := 112) rfl) (sub_c (nq_m (n := 113) rfl) (sub_c (nq_m (n := 114) rfl) (sub_c (nq_m (n := 115) rfl) (sub_c (nq_m (n := 116) rfl) (sub_c (nq_m (n := 117) rfl) (sub_c (nq_m (n := 118) rfl) (sub_c (nq_m (n := 119) rfl) (sub_c (nq_m (n := 120) rfl) (sub_c (nq_m (n := 121) rfl) (sub_c (nq_m (n := 122) rfl) (sub_c (nq_m (n := 123) rfl) (sub_c (nq_m (n := 124) rfl) (sub_c (nq_m (n := 125) rfl) (sub_c (nq_m (n := 126) rfl) (sub_c (nq_m (n := 127) rfl) sub_n)))))))))))))))))))))))))))))))))))))))))))))))))))))))))))))))))))))))))))))) (by decide +kernel)
set_option maxRecDepth 100000 in
theorem gX11_takeClause_X11_readWord : GoodIn wsX11_takeClause (wsV RX11 169 RX11 yX11_readWord wsX11_readWord) := goodIn_app (goodIn_sub (sub_c (nq_m (n := 4) rfl) (sub_c (nq_m (n := 5) rfl) (sub_c (nq_m (n := 6) rfl) (sub_c (nq_m (n := 7) rfl) sub_n)))) (by decide +kernel)) ggX11_takeClause_X11_readWord
set_option maxRecDepth 100000 in
theorem ggX11_takeClause_X11_clauseOf : GoodIn wsX11_takeClause wsX11_clauseOf := goodIn_sub (sub_c (nq_m (n := 28) rfl) (sub_c (nq_m (n := 9) rfl) (sub_c (nq_m (n := 29) rfl) (sub_c (nq_m (n := 30) rfl) (sub_c (nq_m (n := 7) rfl) (sub_c (nq_m (n := 31) rfl) (sub_c (nq_m (n := 16) rfl) (sub_c (nq_m (n := 17) rfl) (sub_c (nq_m (n := 32) rfl) (sub_c (nq_m (n := 33) rfl) (sub_c (nq_m (n := 34) rfl) (sub_c (nq_m (n := 70) rfl) (sub_c (nq_m (n := 71) rfl) (sub_c (nq_m (n := 72) rfl) (sub_c (nq_m (n := 73) rfl) (sub_c (nq_m (n := 74) rfl) (sub_c (nq_m (n := 75) rfl) (sub_c (nq_m (n := 76) rfl) (sub_c (nq_m (n := 77) rfl) (sub_c (nq_m (n := 78) rfl) (sub_c (nq_m (n := 79) rfl) (sub_c (nq_m (n := 80) rfl) (sub_c (nq_m (n := 81) rfl) (sub_c (nq_m (n := 82) rfl) (sub_c (nq_m (n := 83) rfl) (sub_c (nq_m (n := 84) rfl) (sub_c (nq_m (n := 85) rfl) (sub_c (nq_m (n := 86) rfl) (sub_c (nq_m (n := 87) rfl) (sub_c (nq_m (n := 88) rfl) (sub_c (nq_m (n := 89) rfl) (sub_c (nq_m (n := 90) rfl) (sub_c (nq_m (n := 91) rfl) (sub_c (nq_m (n := 92) rfl) (sub_c (nq_m (n := 93) rfl) (sub_c (nq_m (n := 94) rfl) (sub_c (nq_m (n := 95) rfl) (sub_c (nq_m (n := 96) rfl) (sub_c (nq_m (n := 97) rfl) (sub_c (nq_m (n := 98) rfl) (sub_c (nq_m (n := 99) rfl) (sub_c (nq_m (n := 100) rfl) (sub_c (nq_m (n := 101) rfl) (sub_c (nq_m (n := 102) rfl) (sub_c (nq_m (n := 103) rfl) (sub_c (nq_m (n := 104) rfl) (sub_c (nq_m (n := 105) rfl) (sub_c (nq_m (n := 106) rfl) (sub_c (nq_m (n := 107) rfl) (sub_c (nq_m (n := 108) rfl) (sub_c (nq_m (n := 109) rfl) (sub_c (nq_m (n := 110) rfl) (sub_c (nq_m (n := 111) rfl) (sub_c (nq_m (n := 112) rfl) (sub_c (nq_m (n := 113) rfl) (sub_c (nq_m (n := 114) rfl) (sub_c (nq_m (n := 115) rfl) (sub_c (nq_m (n := 116) rfl) (sub_c (nq_m (n := 117) rfl) (sub_c (nq_m (n := 118) rfl) (sub_c (nq_m (n := 119) rfl) (sub_c (nq_m (n := 120) rfl) (sub_c (nq_m (n := 121) rfl) (sub_c (nq_m (n := 122) rfl) (sub_c (nq_m (n := 123) rfl) (sub_c (nq_m (n := 124) rfl) (sub_c (nq_m (n := 125) rfl) (sub_c (nq_m (n := 126) rfl) (sub_c (nq_m (n := 127) rfl) sub_n))))))))))))))))))))))))))))))))))))))))))))))))))))))))))))))))))))) (by decide +kernel)
set_option maxRecDepth 100000 in
theorem gX11_takeClause_X11_clauseOf : GoodIn wsX11_takeClause (wsV RX11 202 RX11 yX11_clauseOf wsX11_clauseOf) := goodIn_app (goodIn_sub (sub_c (nq_m (n := 25) rfl) (sub_c (nq_m (n := 26) rfl) (sub_c (nq_m (n := 27) rfl) (sub_c (nq_m (n := 7) rfl) sub_n)))) (by decide +kernel)) ggX11_takeClause_X11_clauseOf
set_option maxRecDepth 100000 in
theorem ggX11_takeClause_X11_fails : GoodIn wsX11_takeClause wsX11_fails := goodIn_sub (sub_c (nq_m (n := 38) rfl) (sub_c (nq_m (n := 39) rfl) (sub_c (nq_m (n := 70) rfl) (sub_c (nq_m (n := 71) rfl) (sub_c (nq_m (n := 72) rfl) (sub_c (nq_m (n := 73) rfl) (sub_c (nq_m (n := 74) rfl) (sub_c (nq_m (n := 75) rfl) (sub_c (nq_m (n := 76) rfl) (sub_c (nq_m (n := 77) rfl) (sub_c (nq_m (n := 78) rfl) (sub_c (nq_m (n := 79) rfl) (sub_c (nq_m (n := 80) rfl) (sub_c (nq_m (n := 81) rfl) (sub_c (nq_m (n := 82) rfl) (sub_c (nq_m (n := 83) rfl) (sub_c (nq_m (n := 84) rfl) (sub_c (nq_m (n := 85) rfl) (sub_c (nq_m (n := 86) rfl) (sub_c (nq_m (n := 87) rfl) (sub_c (nq_m (n := 88) rfl) (sub_c (nq_m (n := 89) rfl) (sub_c (nq_m (n := 90) rfl) (sub_c (nq_m (n := 91) rfl) (sub_c (nq_m (n := 92) rfl) (sub_c (nq_m (n := 93) rfl) (sub_c (nq_m (n := 94) rfl) (sub_c (nq_m (n := 95) rfl) (sub_c (nq_m (n := 96) rfl) (sub_c (nq_m (n := 97) rfl) (sub_c (nq_m (n := 98) rfl) (sub_c (nq_m (n := 99) rfl) (sub_c (nq_m (n := 100) rfl) (sub_c (nq_m (n := 101) rfl) (sub_c (nq_m (n := 102) rfl) (sub_c (nq_m (n := 103) rfl) (sub_c (nq_m (n := 104) rfl) (sub_c (nq_m (n := 105) rfl) (sub_c (nq_m (n := 106) rfl) (sub_c (nq_m (n := 107) rfl) (sub_c (nq_m (n := 108) rfl) (sub_c (nq_m (n := 109) rfl) (sub_c (nq_m (n := 110) rfl) (sub_c (nq_m (n := 111) rfl) (sub_c (nq_m (n := 112) rfl) (sub_c (nq_m (n := 113) rfl) (sub_c (nq_m (n := 114) rfl) (sub_c (nq_m (n := 115) rfl) (sub_c (nq_m (n := 116) rfl) (sub_c (nq_m (n := 117) rfl) (sub_c (nq_m (n := 118) rfl) (sub_c (nq_m (n := 119) rfl) (sub_c (nq_m (n := 120) rfl) (sub_c (nq_m (n := 121) rfl) (sub_c (nq_m (n := 122) rfl) (sub_c (nq_m (n := 123) rfl) (sub_c (nq_m (n := 124) rfl) (sub_c (nq_m (n := 125) rfl) (sub_c (nq_m (n := 126) rfl) (sub_c (nq_m (n := 127) rfl) sub_n)))))))))))))))))))))))))))))))))))))))))))))))))))))))))))) (by decide +kernel)
set_option maxRecDepth 100000 in
theorem gX11_takeClause_X11_fails : GoodIn wsX11_takeClause (wsV RX11 172 RX11 yX11_fails wsX11_fails) := goodIn_app (goodIn_sub (sub_c (nq_m (n := 35) rfl) (sub_c (nq_m (n := 36) rfl) (sub_c (nq_m (n := 37) rfl) (sub_c (nq_m (n := 7) rfl) sub_n)))) (by decide +kernel)) ggX11_takeClause_X11_fails
set_option maxRecDepth 100000 in
theorem ggX11_takeClause_X11_takeRow : GoodIn wsX11_takeClause wsX11_takeRow := goodIn_sub (sub_c (nq_m (n := 43) rfl) (sub_c (nq_m (n := 44) rfl) (sub_c (nq_m (n := 45) rfl) (sub_c (nq_m (n := 46) rfl) (sub_c (nq_m (n := 47) rfl) (sub_c (nq_m (n := 48) rfl) (sub_c (nq_m (n := 49) rfl) (sub_c (nq_m (n := 50) rfl) (sub_c (nq_m (n := 51) rfl) (sub_c (nq_m (n := 7) rfl) (sub_c (nq_m (n := 52) rfl) (sub_c (nq_m (n := 53) rfl) (sub_c (nq_m (n := 54) rfl) (sub_c (nq_m (n := 2) rfl) (sub_c (nq_m (n := 10) rfl) (sub_c (nq_m (n := 11) rfl) (sub_c (nq_m (n := 18) rfl) (sub_c (nq_m (n := 19) rfl) (sub_c (nq_m (n := 20) rfl) (sub_c (nq_m (n := 21) rfl) (sub_c (nq_m (n := 22) rfl) (sub_c (nq_m (n := 23) rfl) (sub_c (nq_m (n := 24) rfl) (sub_c (nq_m (n := 35) rfl) (sub_c (nq_m (n := 36) rfl) (sub_c (nq_m (n := 37) rfl) (sub_c (nq_m (n := 38) rfl) (sub_c (nq_m (n := 39) rfl) (sub_c (nq_m (n := 29) rfl) (sub_c (nq_m (n := 30) rfl) (sub_c (nq_m (n := 31) rfl) (sub_c (nq_m (n := 16) rfl) (sub_c (nq_m (n := 17) rfl) (sub_c (nq_m (n := 32) rfl) (sub_c (nq_m (n := 33) rfl) (sub_c (nq_m (n := 34) rfl) (sub_c (nq_m (n := 55) rfl) (sub_c (nq_m (n := 56) rfl) (sub_c (nq_m (n := 57) rfl) (sub_c (nq_m (n := 58) rfl) (sub_c (nq_m (n := 9) rfl) (sub_c (nq_m (n := 3) rfl) (sub_c (nq_m (n := 4) rfl) (sub_c (nq_m (n := 5) rfl) (sub_c (nq_m (n := 6) rfl) (sub_c (nq_m (n := 8) rfl) (sub_c (nq_m (n := 12) rfl) (sub_c (nq_m (n := 13) rfl) (sub_c (nq_m (n := 14) rfl) (sub_c (nq_m (n := 15) rfl) (sub_c (nq_m (n := 70) rfl) (sub_c (nq_m (n := 71) rfl) (sub_c (nq_m (n := 72) rfl) (sub_c (nq_m (n := 73) rfl) (sub_c (nq_m (n := 74) rfl) (sub_c (nq_m (n := 75) rfl) (sub_c (nq_m (n := 76) rfl) (sub_c (nq_m (n := 77) rfl) (sub_c (nq_m (n := 78) rfl) (sub_c (nq_m (n := 79) rfl) (sub_c (nq_m (n := 80) rfl) (sub_c (nq_m (n := 81) rfl) (sub_c (nq_m (n := 82) rfl) (sub_c (nq_m (n := 83) rfl) (sub_c (nq_m (n := 84) rfl) (sub_c (nq_m (n := 85) rfl) (sub_c (nq_m (n := 86) rfl) (sub_c (nq_m (n := 87) rfl) (sub_c (nq_m (n := 88) rfl) (sub_c (nq_m (n := 89) rfl) (sub_c (nq_m (n := 90) rfl) (sub_c (nq_m (n := 91) rfl) (sub_c (nq_m (n := 92) rfl) (sub_c (nq_m (n := 93) rfl) (sub_c (nq_m (n := 94) rfl) (sub_c (nq_m (n := 95) rfl) (sub_c (nq_m (n := 96) rfl) (sub_c (nq_m (n := 97) rfl) (sub_c (nq_m (n := 98) rfl) (sub_c (nq_m (n := 99) rfl) (sub_c (nq_m (n := 100) rfl) (sub_c (nq_m (n := 101) rfl) (sub_c (nq_m (n := 102) rfl) (sub_c (nq_m (n := 103) rfl) (sub_c (nq_m (n := 104) rfl) (sub_c (nq_m (n := 105) rfl) (sub_c (nq_m (n := 106) rfl) (sub_c (nq_m (n := 107) rfl) (sub_c (nq_m (n := 108) rfl) (sub_c (nq_m (n := 109) rfl) (sub_c (nq_m (n := 110) rfl) (sub_c (nq_m (n := 111) rfl) (sub_c (nq_m (n := 112) rfl) (sub_c (nq_m (n := 113) rfl) (sub_c (nq_m (n := 114) rfl) (sub_c (nq_m (n := 115) rfl) (sub_c (nq_m (n := 116) rfl) (sub_c (nq_m (n := 117) rfl) (sub_c (nq_m (n := 118) rfl) (sub_c (nq_m (n := 119) rfl) (sub_c (nq_m (n := 120) rfl) (sub_c (nq_m (n := 121) rfl) (sub_c (nq_m (n := 122) rfl) (sub_c (nq_m (n := 123) rfl) (sub_c (nq_m (n := 124) rfl) (sub_c (nq_m (n := 125) rfl) (sub_c (nq_m (n := 126) rfl) (sub_c (nq_m (n := 127) rfl) sub_n)))))))))))))))))))))))))))))))))))))))))))))))))))))))))))))))))))))))))))))))))))))))))))))))))))))))))))) (by decide +kernel)
set_option maxRecDepth 100000 in
theorem gX11_takeClause_X11_takeRow : GoodIn wsX11_takeClause (wsV RX11 205 RX11 yX11_takeRow wsX11_takeRow) := goodIn_app (goodIn_sub (sub_c (nq_m (n := 40) rfl) (sub_c (nq_m (n := 41) rfl) (sub_c (nq_m (n := 42) rfl) (sub_c (nq_m (n := 7) rfl) sub_n)))) (by decide +kernel)) ggX11_takeClause_X11_takeRow
set_option maxRecDepth 100000 in
theorem ggX11_takeClause_X11_takeOdds : GoodIn wsX11_takeClause wsX11_takeOdds := goodIn_sub (sub_c (nq_m (n := 62) rfl) (sub_c (nq_m (n := 44) rfl) (sub_c (nq_m (n := 63) rfl) (sub_c (nq_m (n := 46) rfl) (sub_c (nq_m (n := 64) rfl) (sub_c (nq_m (n := 49) rfl) (sub_c (nq_m (n := 50) rfl) (sub_c (nq_m (n := 51) rfl) (sub_c (nq_m (n := 7) rfl) (sub_c (nq_m (n := 52) rfl) (sub_c (nq_m (n := 53) rfl) (sub_c (nq_m (n := 54) rfl) (sub_c (nq_m (n := 2) rfl) (sub_c (nq_m (n := 10) rfl) (sub_c (nq_m (n := 11) rfl) (sub_c (nq_m (n := 18) rfl) (sub_c (nq_m (n := 19) rfl) (sub_c (nq_m (n := 20) rfl) (sub_c (nq_m (n := 21) rfl) (sub_c (nq_m (n := 22) rfl) (sub_c (nq_m (n := 23) rfl) (sub_c (nq_m (n := 24) rfl) (sub_c (nq_m (n := 35) rfl) (sub_c (nq_m (n := 36) rfl) (sub_c (nq_m (n := 37) rfl) (sub_c (nq_m (n := 38) rfl) (sub_c (nq_m (n := 39) rfl) (sub_c (nq_m (n := 70) rfl) (sub_c (nq_m (n := 71) rfl) (sub_c (nq_m (n := 72) rfl) (sub_c (nq_m (n := 73) rfl) (sub_c (nq_m (n := 74) rfl) (sub_c (nq_m (n := 75) rfl) (sub_c (nq_m (n := 76) rfl) (sub_c (nq_m (n := 77) rfl) (sub_c (nq_m (n := 78) rfl) (sub_c (nq_m (n := 79) rfl) (sub_c (nq_m (n := 80) rfl) (sub_c (nq_m (n := 81) rfl) (sub_c (nq_m (n := 82) rfl) (sub_c (nq_m (n := 83) rfl) (sub_c (nq_m (n := 84) rfl) (sub_c (nq_m (n := 85) rfl) (sub_c (nq_m (n := 86) rfl) (sub_c (nq_m (n := 87) rfl) (sub_c (nq_m (n := 88) rfl) (sub_c (nq_m (n := 89) rfl) (sub_c (nq_m (n := 90) rfl) (sub_c (nq_m (n := 91) rfl) (sub_c (nq_m (n := 92) rfl) (sub_c (nq_m (n := 93) rfl) (sub_c (nq_m (n := 94) rfl) (sub_c (nq_m (n := 95) rfl) (sub_c (nq_m (n := 96) rfl) (sub_c (nq_m (n := 97) rfl) (sub_c (nq_m (n := 98) rfl) (sub_c (nq_m (n := 99) rfl) (sub_c (nq_m (n := 100) rfl) (sub_c (nq_m (n := 101) rfl) (sub_c (nq_m (n := 102) rfl) (sub_c (nq_m (n := 103) rfl) (sub_c (nq_m (n := 104) rfl) (sub_c (nq_m (n := 105) rfl) (sub_c (nq_m (n := 106) rfl) (sub_c (nq_m (n := 107) rfl) (sub_c (nq_m (n := 108) rfl) (sub_c (nq_m (n := 109) rfl) (sub_c (nq_m (n := 110) rfl) (sub_c (nq_m (n := 111) rfl) (sub_c (nq_m (n := 112) rfl) (sub_c (nq_m (n := 113) rfl) (sub_c (nq_m (n := 114) rfl) (sub_c (nq_m (n := 115) rfl) (sub_c (nq_m (n := 116) rfl) (sub_c (nq_m (n := 117) rfl) (sub_c (nq_m (n := 118) rfl) (sub_c (nq_m (n := 119) rfl) (sub_c (nq_m (n := 120) rfl) (sub_c (nq_m (n := 121) rfl) (sub_c (nq_m (n := 122) rfl) (sub_c (nq_m (n := 123) rfl) (sub_c (nq_m (n := 124) rfl) (sub_c (nq_m (n := 125) rfl) (sub_c (nq_m (n := 126) rfl) (sub_c (nq_m (n := 127) rfl) sub_n))))))))))))))))))))))))))))))))))))))))))))))))))))))))))))))))))))))))))))))))))))) (by decide +kernel)
set_option maxRecDepth 100000 in
theorem gX11_takeClause_X11_takeOdds : GoodIn wsX11_takeClause (wsV RX11 208 RX11 yX11_takeOdds wsX11_takeOdds) := goodIn_app (goodIn_sub (sub_c (nq_m (n := 59) rfl) (sub_c (nq_m (n := 60) rfl) (sub_c (nq_m (n := 61) rfl) (sub_c (nq_m (n := 7) rfl) sub_n)))) (by decide +kernel)) ggX11_takeClause_X11_takeOdds
set_option maxRecDepth 100000 in
theorem ggX11_takeClause_X11_takeSingles : GoodIn wsX11_takeClause wsX11_takeSingles := goodIn_sub (sub_c (nq_m (n := 68) rfl) (sub_c (nq_m (n := 69) rfl) (sub_c (nq_m (n := 44) rfl) (sub_c (nq_m (n := 49) rfl) (sub_c (nq_m (n := 50) rfl) (sub_c (nq_m (n := 51) rfl) (sub_c (nq_m (n := 7) rfl) (sub_c (nq_m (n := 52) rfl) (sub_c (nq_m (n := 53) rfl) (sub_c (nq_m (n := 54) rfl) (sub_c (nq_m (n := 2) rfl) (sub_c (nq_m (n := 46) rfl) (sub_c (nq_m (n := 10) rfl) (sub_c (nq_m (n := 11) rfl) (sub_c (nq_m (n := 18) rfl) (sub_c (nq_m (n := 19) rfl) (sub_c (nq_m (n := 20) rfl) (sub_c (nq_m (n := 21) rfl) (sub_c (nq_m (n := 22) rfl) (sub_c (nq_m (n := 23) rfl) (sub_c (nq_m (n := 24) rfl) (sub_c (nq_m (n := 35) rfl) (sub_c (nq_m (n := 36) rfl) (sub_c (nq_m (n := 37) rfl) (sub_c (nq_m (n := 38) rfl) (sub_c (nq_m (n := 39) rfl) (sub_c (nq_m (n := 70) rfl) (sub_c (nq_m (n := 71) rfl) (sub_c (nq_m (n := 72) rfl) (sub_c (nq_m (n := 73) rfl) (sub_c (nq_m (n := 74) rfl) (sub_c (nq_m (n := 75) rfl) (sub_c (nq_m (n := 76) rfl) (sub_c (nq_m (n := 77) rfl) (sub_c (nq_m (n := 78) rfl) (sub_c (nq_m (n := 79) rfl) (sub_c (nq_m (n := 80) rfl) (sub_c (nq_m (n := 81) rfl) (sub_c (nq_m (n := 82) rfl) (sub_c (nq_m (n := 83) rfl) (sub_c (nq_m (n := 84) rfl) (sub_c (nq_m (n := 85) rfl) (sub_c (nq_m (n := 86) rfl) (sub_c (nq_m (n := 87) rfl) (sub_c (nq_m (n := 88) rfl) (sub_c (nq_m (n := 89) rfl) (sub_c (nq_m (n := 90) rfl) (sub_c (nq_m (n := 91) rfl) (sub_c (nq_m (n := 92) rfl) (sub_c (nq_m (n := 93) rfl) (sub_c (nq_m (n := 94) rfl) (sub_c (nq_m (n := 95) rfl) (sub_c (nq_m (n := 96) rfl) (sub_c (nq_m (n := 97) rfl) (sub_c (nq_m (n := 98) rfl) (sub_c (nq_m (n := 99) rfl) (sub_c (nq_m (n := 100) rfl) (sub_c (nq_m (n := 101) rfl) (sub_c (nq_m (n := 102) rfl) (sub_c (nq_m (n := 103) rfl) (sub_c (nq_m (n := 104) rfl) (sub_c (nq_m (n := 105) rfl) (sub_c (nq_m (n := 106) rfl) (sub_c (nq_m (n := 107) rfl) (sub_c (nq_m (n := 108) rfl) (sub_c (nq_m (n := 109) rfl) (sub_c (nq_m (n := 110) rfl) (sub_c (nq_m (n := 111) rfl) (sub_c (nq_m (n := 112) rfl) (sub_c (nq_m (n := 113) rfl) (sub_c (nq_m (n := 114) rfl) (sub_c (nq_m (n := 115) rfl) (sub_c (nq_m (n := 116) rfl) (sub_c (nq_m (n := 117) rfl) (sub_c (nq_m (n := 118) rfl) (sub_c (nq_m (n := 119) rfl) (sub_c (nq_m (n := 120) rfl) (sub_c (nq_m (n := 121) rfl) (sub_c (nq_m (n := 122) rfl) (sub_c (nq_m (n := 123) rfl) (sub_c (nq_m (n := 124) rfl) (sub_c (nq_m (n := 125) rfl) (sub_c (nq_m (n := 126) rfl) (sub_c (nq_m (n := 127) rfl) sub_n)))))))))))))))))))))))))))))))))))))))))))))))))))))))))))))))))))))))))))))))))))) (by decide +kernel)
set_option maxRecDepth 100000 in
theorem gX11_takeClause_X11_takeSingles : GoodIn wsX11_takeClause (wsV RX11 211 RX11 yX11_takeSingles wsX11_takeSingles) := goodIn_app (goodIn_sub (sub_c (nq_m (n := 65) rfl) (sub_c (nq_m (n := 66) rfl) (sub_c (nq_m (n := 67) rfl) (sub_c (nq_m (n := 7) rfl) sub_n)))) (by decide +kernel)) ggX11_takeClause_X11_takeSingles
set_option maxRecDepth 100000 in
theorem ggX11_takeClause_X11_here : GoodIn wsX11_takeClause wsX11_here := goodIn_sub (sub_c (nq_m (n := 21) rfl) (sub_c (nq_m (n := 2) rfl) (sub_c (nq_m (n := 10) rfl) (sub_c (nq_m (n := 11) rfl) (sub_c (nq_m (n := 70) rfl) (sub_c (nq_m (n := 71) rfl) (sub_c (nq_m (n := 72) rfl) (sub_c (nq_m (n := 73) rfl) (sub_c (nq_m (n := 74) rfl) (sub_c (nq_m (n := 75) rfl) (sub_c (nq_m (n := 76) rfl) (sub_c (nq_m (n := 77) rfl) (sub_c (nq_m (n := 78) rfl) (sub_c (nq_m (n := 79) rfl) (sub_c (nq_m (n := 80) rfl) (sub_c (nq_m (n := 81) rfl) (sub_c (nq_m (n := 82) rfl) (sub_c (nq_m (n := 83) rfl) (sub_c (nq_m (n := 84) rfl) (sub_c (nq_m (n := 85) rfl) (sub_c (nq_m (n := 86) rfl) (sub_c (nq_m (n := 87) rfl) (sub_c (nq_m (n := 88) rfl) (sub_c (nq_m (n := 89) rfl) (sub_c (nq_m (n := 90) rfl) (sub_c (nq_m (n := 91) rfl) (sub_c (nq_m (n := 92) rfl) (sub_c (nq_m (n := 93) rfl) (sub_c (nq_m (n := 94) rfl) (sub_c (nq_m (n := 95) rfl) (sub_c (nq_m (n := 96) rfl) (sub_c (nq_m (n := 97) rfl) (sub_c (nq_m (n := 98) rfl) (sub_c (nq_m (n := 99) rfl) (sub_c (nq_m (n := 100) rfl) (sub_c (nq_m (n := 101) rfl) (sub_c (nq_m (n := 102) rfl) (sub_c (nq_m (n := 103) rfl) (sub_c (nq_m (n := 104) rfl) (sub_c (nq_m (n := 105) rfl) (sub_c (nq_m (n := 106) rfl) (sub_c (nq_m (n := 107) rfl) (sub_c (nq_m (n := 108) rfl) (sub_c (nq_m (n := 109) rfl) (sub_c (nq_m (n := 110) rfl) (sub_c (nq_m (n := 111) rfl) (sub_c (nq_m (n := 112) rfl) (sub_c (nq_m (n := 113) rfl) (sub_c (nq_m (n := 114) rfl) (sub_c (nq_m (n := 115) rfl) (sub_c (nq_m (n := 116) rfl) (sub_c (nq_m (n := 117) rfl) (sub_c (nq_m (n := 118) rfl) (sub_c (nq_m (n := 119) rfl) (sub_c (nq_m (n := 120) rfl) (sub_c (nq_m (n := 121) rfl) (sub_c (nq_m (n := 122) rfl) (sub_c (nq_m (n := 123) rfl) (sub_c (nq_m (n := 124) rfl) (sub_c (nq_m (n := 125) rfl) (sub_c (nq_m (n := 126) rfl) (sub_c (nq_m (n := 127) rfl) sub_n)))))))))))))))))))))))))))))))))))))))))))))))))))))))))))))) (by decide +kernel)
set_option maxRecDepth 100000 in
theorem gX11_takeClause_X11_here : GoodIn wsX11_takeClause (wsV RX11 138 RX11 yX11_here wsX11_here) := goodIn_app (goodIn_sub (sub_c (nq_m (n := 18) rfl) (sub_c (nq_m (n := 19) rfl) (sub_c (nq_m (n := 20) rfl) (sub_c (nq_m (n := 7) rfl) sub_n)))) (by decide +kernel)) ggX11_takeClause_X11_here
noncomputable def dX11_takeClause_0_l : List (Nat × Instr × Nat) := [(0, .aload_n 0, 1), (1, .invokevirtual 169, 3), (4, .aload_n 0, 1), (5, .invokevirtual 202, 3), (8, .istore_n 1, 1), (9, .iload_n 1, 1), (10, .iconst 1, 1), (11, .if_icmp .le 19, 3), (14, .aload_n 0, 1), (15, .getfield 189, 3), (18, .iload_n 1, 1), (19, .ishr, 1), (20, .iconst 1, 1), (21, .iand, 1), (22, .iconst 1, 1), (23, .if_icmp .ne 7, 3), (26, .iconst 1, 1), (27, .goto 4, 3), (30, .iconst 0, 1), (31, .istore_n 2, 1), (32, .iload_n 1, 1), (33, .ifCond .lt 7, 3), (36, .iload_n 2, 1), (37, .ifCond .eq 21, 3), (40, .aload_n 0, 1), (41, .iload_n 1, 1), (42, .ifCond .ge 7, 3), (45, .iconst 1, 1), (46, .goto 4, 3), (49, .iconst 3, 1), (50, .aload_n 0, 1), (51, .getfield 135, 3), (54, .invokevirtual 172, 3), (57, .ireturn, 1), (58, .aload_n 0, 1), (59, .dup, 1), (60, .getfield 189, 3), (63, .iconst 1, 1), (64, .iload_n 1, 1), (65, .ishl, 1)]
set_option maxRecDepth 100000 in
theorem dX11_takeClause_0_g : dX11_takeClause_0_l.all (fun x => decide (decode cX11_takeClause x.1 = .ok x.2)) = true := by decide +kernel
theorem dX11_takeClause_0 : decode cX11_takeClause 0 = .ok (.aload_n 0, 1) := nq_d dX11_takeClause_0_g (n := 0) rfl
theorem dX11_takeClause_1 : decode cX11_takeClause 1 = .ok (.invokevirtual 169, 3) := nq_d dX11_takeClause_0_g (n := 1) rfl
theorem dX11_takeClause_4 : decode cX11_takeClause 4 = .ok (.aload_n 0, 1) := nq_d dX11_takeClause_0_g (n := 2) rfl
theorem dX11_takeClause_5 : decode cX11_takeClause 5 = .ok (.invokevirtual 202, 3) := nq_d dX11_takeClause_0_g (n := 3) rfl
theorem dX11_takeClause_8 : decode cX11_takeClause 8 = .ok (.istore_n 1, 1) := nq_d dX11_takeClause_0_g (n := 4) rfl
theorem dX11_takeClause_9 : decode cX11_takeClause 9 = .ok (.iload_n 1, 1) := nq_d dX11_takeClause_0_g (n := 5) rfl
theorem dX11_takeClause_10 : decode cX11_takeClause 10 = .ok (.iconst 1, 1) := nq_d dX11_takeClause_0_g (n := 6) rfl
theorem dX11_takeClause_11 : decode cX11_takeClause 11 = .ok (.if_icmp .le 19, 3) := nq_d dX11_takeClause_0_g (n := 7) rfl
theorem dX11_takeClause_14 : decode cX11_takeClause 14 = .ok (.aload_n 0, 1) := nq_d dX11_takeClause_0_g (n := 8) rfl
theorem dX11_takeClause_15 : decode cX11_takeClause 15 = .ok (.getfield 189, 3) := nq_d dX11_takeClause_0_g (n := 9) rfl
theorem dX11_takeClause_18 : decode cX11_takeClause 18 = .ok (.iload_n 1, 1) := nq_d dX11_takeClause_0_g (n := 10) rfl
theorem dX11_takeClause_19 : decode cX11_takeClause 19 = .ok (.ishr, 1) := nq_d dX11_takeClause_0_g (n := 11) rfl
theorem dX11_takeClause_20 : decode cX11_takeClause 20 = .ok (.iconst 1, 1) := nq_d dX11_takeClause_0_g (n := 12) rfl
theorem dX11_takeClause_21 : decode cX11_takeClause 21 = .ok (.iand, 1) := nq_d dX11_takeClause_0_g (n := 13) rfl
theorem dX11_takeClause_22 : decode cX11_takeClause 22 = .ok (.iconst 1, 1) := nq_d dX11_takeClause_0_g (n := 14) rfl
theorem dX11_takeClause_23 : decode cX11_takeClause 23 = .ok (.if_icmp .ne 7, 3) := nq_d dX11_takeClause_0_g (n := 15) rfl
theorem dX11_takeClause_26 : decode cX11_takeClause 26 = .ok (.iconst 1, 1) := nq_d dX11_takeClause_0_g (n := 16) rfl
theorem dX11_takeClause_27 : decode cX11_takeClause 27 = .ok (.goto 4, 3) := nq_d dX11_takeClause_0_g (n := 17) rfl
theorem dX11_takeClause_30 : decode cX11_takeClause 30 = .ok (.iconst 0, 1) := nq_d dX11_takeClause_0_g (n := 18) rfl
theorem dX11_takeClause_31 : decode cX11_takeClause 31 = .ok (.istore_n 2, 1) := nq_d dX11_takeClause_0_g (n := 19) rfl
theorem dX11_takeClause_32 : decode cX11_takeClause 32 = .ok (.iload_n 1, 1) := nq_d dX11_takeClause_0_g (n := 20) rfl
theorem dX11_takeClause_33 : decode cX11_takeClause 33 = .ok (.ifCond .lt 7, 3) := nq_d dX11_takeClause_0_g (n := 21) rfl
theorem dX11_takeClause_36 : decode cX11_takeClause 36 = .ok (.iload_n 2, 1) := nq_d dX11_takeClause_0_g (n := 22) rfl
theorem dX11_takeClause_37 : decode cX11_takeClause 37 = .ok (.ifCond .eq 21, 3) := nq_d dX11_takeClause_0_g (n := 23) rfl
theorem dX11_takeClause_40 : decode cX11_takeClause 40 = .ok (.aload_n 0, 1) := nq_d dX11_takeClause_0_g (n := 24) rfl
theorem dX11_takeClause_41 : decode cX11_takeClause 41 = .ok (.iload_n 1, 1) := nq_d dX11_takeClause_0_g (n := 25) rfl
theorem dX11_takeClause_42 : decode cX11_takeClause 42 = .ok (.ifCond .ge 7, 3) := nq_d dX11_takeClause_0_g (n := 26) rfl
theorem dX11_takeClause_45 : decode cX11_takeClause 45 = .ok (.iconst 1, 1) := nq_d dX11_takeClause_0_g (n := 27) rfl
theorem dX11_takeClause_46 : decode cX11_takeClause 46 = .ok (.goto 4, 3) := nq_d dX11_takeClause_0_g (n := 28) rfl
theorem dX11_takeClause_49 : decode cX11_takeClause 49 = .ok (.iconst 3, 1) := nq_d dX11_takeClause_0_g (n := 29) rfl
theorem dX11_takeClause_50 : decode cX11_takeClause 50 = .ok (.aload_n 0, 1) := nq_d dX11_takeClause_0_g (n := 30) rfl
theorem dX11_takeClause_51 : decode cX11_takeClause 51 = .ok (.getfield 135, 3) := nq_d dX11_takeClause_0_g (n := 31) rfl
theorem dX11_takeClause_54 : decode cX11_takeClause 54 = .ok (.invokevirtual 172, 3) := nq_d dX11_takeClause_0_g (n := 32) rfl
theorem dX11_takeClause_57 : decode cX11_takeClause 57 = .ok (.ireturn, 1) := nq_d dX11_takeClause_0_g (n := 33) rfl
theorem dX11_takeClause_58 : decode cX11_takeClause 58 = .ok (.aload_n 0, 1) := nq_d dX11_takeClause_0_g (n := 34) rfl
theorem dX11_takeClause_59 : decode cX11_takeClause 59 = .ok (.dup, 1) := nq_d dX11_takeClause_0_g (n := 35) rfl
theorem dX11_takeClause_60 : decode cX11_takeClause 60 = .ok (.getfield 189, 3) := nq_d dX11_takeClause_0_g (n := 36) rfl
theorem dX11_takeClause_63 : decode cX11_takeClause 63 = .ok (.iconst 1, 1) := nq_d dX11_takeClause_0_g (n := 37) rfl
theorem dX11_takeClause_64 : decode cX11_takeClause 64 = .ok (.iload_n 1, 1) := nq_d dX11_takeClause_0_g (n := 38) rfl
theorem dX11_takeClause_65 : decode cX11_takeClause 65 = .ok (.ishl, 1) := nq_d dX11_takeClause_0_g (n := 39) rfl
noncomputable def dX11_takeClause_66_l : List (Nat × Instr × Nat) := [(66, .ior, 1), (67, .putfield 189, 3), (70, .aload_n 0, 1), (71, .aload_n 0, 1), (72, .getfield 146, 3), (75, .putfield 135, 3), (78, .iload_n 1, 1), (79, .ifCond .ne 10, 3), (82, .aload_n 0, 1), (83, .invokevirtual 205, 3), (86, .goto 20, 3), (89, .iload_n 1, 1), (90, .iconst 1, 1), (91, .if_icmp .ne 10, 3), (94, .aload_n 0, 1), (95, .invokevirtual 208, 3), (98, .goto 8, 3), (101, .aload_n 0, 1), (102, .iload_n 1, 1), (103, .invokevirtual 211, 3), (106, .istore_n 3, 1), (107, .iload_n 3, 1), (108, .ifCond .le 5, 3), (111, .iload_n 3, 1), (112, .ireturn, 1), (113, .aload_n 0, 1), (114, .invokevirtual 138, 3), (117, .bipush 59, 2), (119, .if_icmp .eq 13, 3), (122, .aload_n 0, 1), (123, .iconst 1, 1), (124, .aload_n 0, 1), (125, .getfield 135, 3), (128, .invokevirtual 172, 3), (131, .ireturn, 1), (132, .aload_n 0, 1), (133, .dup, 1), (134, .getfield 135, 3), (137, .iconst 1, 1), (138, .iadd, 1)]
set_option maxRecDepth 100000 in
theorem dX11_takeClause_66_g : dX11_takeClause_66_l.all (fun x => decide (decode cX11_takeClause x.1 = .ok x.2)) = true := by decide +kernel
theorem dX11_takeClause_66 : decode cX11_takeClause 66 = .ok (.ior, 1) := nq_d dX11_takeClause_66_g (n := 0) rfl
theorem dX11_takeClause_67 : decode cX11_takeClause 67 = .ok (.putfield 189, 3) := nq_d dX11_takeClause_66_g (n := 1) rfl
theorem dX11_takeClause_70 : decode cX11_takeClause 70 = .ok (.aload_n 0, 1) := nq_d dX11_takeClause_66_g (n := 2) rfl
theorem dX11_takeClause_71 : decode cX11_takeClause 71 = .ok (.aload_n 0, 1) := nq_d dX11_takeClause_66_g (n := 3) rfl
theorem dX11_takeClause_72 : decode cX11_takeClause 72 = .ok (.getfield 146, 3) := nq_d dX11_takeClause_66_g (n := 4) rfl
theorem dX11_takeClause_75 : decode cX11_takeClause 75 = .ok (.putfield 135, 3) := nq_d dX11_takeClause_66_g (n := 5) rfl
theorem dX11_takeClause_78 : decode cX11_takeClause 78 = .ok (.iload_n 1, 1) := nq_d dX11_takeClause_66_g (n := 6) rfl
theorem dX11_takeClause_79 : decode cX11_takeClause 79 = .ok (.ifCond .ne 10, 3) := nq_d dX11_takeClause_66_g (n := 7) rfl
theorem dX11_takeClause_82 : decode cX11_takeClause 82 = .ok (.aload_n 0, 1) := nq_d dX11_takeClause_66_g (n := 8) rfl
theorem dX11_takeClause_83 : decode cX11_takeClause 83 = .ok (.invokevirtual 205, 3) := nq_d dX11_takeClause_66_g (n := 9) rfl
theorem dX11_takeClause_86 : decode cX11_takeClause 86 = .ok (.goto 20, 3) := nq_d dX11_takeClause_66_g (n := 10) rfl
theorem dX11_takeClause_89 : decode cX11_takeClause 89 = .ok (.iload_n 1, 1) := nq_d dX11_takeClause_66_g (n := 11) rfl
theorem dX11_takeClause_90 : decode cX11_takeClause 90 = .ok (.iconst 1, 1) := nq_d dX11_takeClause_66_g (n := 12) rfl
theorem dX11_takeClause_91 : decode cX11_takeClause 91 = .ok (.if_icmp .ne 10, 3) := nq_d dX11_takeClause_66_g (n := 13) rfl
theorem dX11_takeClause_94 : decode cX11_takeClause 94 = .ok (.aload_n 0, 1) := nq_d dX11_takeClause_66_g (n := 14) rfl
theorem dX11_takeClause_95 : decode cX11_takeClause 95 = .ok (.invokevirtual 208, 3) := nq_d dX11_takeClause_66_g (n := 15) rfl
theorem dX11_takeClause_98 : decode cX11_takeClause 98 = .ok (.goto 8, 3) := nq_d dX11_takeClause_66_g (n := 16) rfl
theorem dX11_takeClause_101 : decode cX11_takeClause 101 = .ok (.aload_n 0, 1) := nq_d dX11_takeClause_66_g (n := 17) rfl
theorem dX11_takeClause_102 : decode cX11_takeClause 102 = .ok (.iload_n 1, 1) := nq_d dX11_takeClause_66_g (n := 18) rfl
theorem dX11_takeClause_103 : decode cX11_takeClause 103 = .ok (.invokevirtual 211, 3) := nq_d dX11_takeClause_66_g (n := 19) rfl
theorem dX11_takeClause_106 : decode cX11_takeClause 106 = .ok (.istore_n 3, 1) := nq_d dX11_takeClause_66_g (n := 20) rfl
theorem dX11_takeClause_107 : decode cX11_takeClause 107 = .ok (.iload_n 3, 1) := nq_d dX11_takeClause_66_g (n := 21) rfl
theorem dX11_takeClause_108 : decode cX11_takeClause 108 = .ok (.ifCond .le 5, 3) := nq_d dX11_takeClause_66_g (n := 22) rfl
theorem dX11_takeClause_111 : decode cX11_takeClause 111 = .ok (.iload_n 3, 1) := nq_d dX11_takeClause_66_g (n := 23) rfl
theorem dX11_takeClause_112 : decode cX11_takeClause 112 = .ok (.ireturn, 1) := nq_d dX11_takeClause_66_g (n := 24) rfl
theorem dX11_takeClause_113 : decode cX11_takeClause 113 = .ok (.aload_n 0, 1) := nq_d dX11_takeClause_66_g (n := 25) rfl
theorem dX11_takeClause_114 : decode cX11_takeClause 114 = .ok (.invokevirtual 138, 3) := nq_d dX11_takeClause_66_g (n := 26) rfl
theorem dX11_takeClause_117 : decode cX11_takeClause 117 = .ok (.bipush 59, 2) := nq_d dX11_takeClause_66_g (n := 27) rfl
theorem dX11_takeClause_119 : decode cX11_takeClause 119 = .ok (.if_icmp .eq 13, 3) := nq_d dX11_takeClause_66_g (n := 28) rfl
theorem dX11_takeClause_122 : decode cX11_takeClause 122 = .ok (.aload_n 0, 1) := nq_d dX11_takeClause_66_g (n := 29) rfl
theorem dX11_takeClause_123 : decode cX11_takeClause 123 = .ok (.iconst 1, 1) := nq_d dX11_takeClause_66_g (n := 30) rfl
theorem dX11_takeClause_124 : decode cX11_takeClause 124 = .ok (.aload_n 0, 1) := nq_d dX11_takeClause_66_g (n := 31) rfl
theorem dX11_takeClause_125 : decode cX11_takeClause 125 = .ok (.getfield 135, 3) := nq_d dX11_takeClause_66_g (n := 32) rfl
theorem dX11_takeClause_128 : decode cX11_takeClause 128 = .ok (.invokevirtual 172, 3) := nq_d dX11_takeClause_66_g (n := 33) rfl
theorem dX11_takeClause_131 : decode cX11_takeClause 131 = .ok (.ireturn, 1) := nq_d dX11_takeClause_66_g (n := 34) rfl
theorem dX11_takeClause_132 : decode cX11_takeClause 132 = .ok (.aload_n 0, 1) := nq_d dX11_takeClause_66_g (n := 35) rfl
theorem dX11_takeClause_133 : decode cX11_takeClause 133 = .ok (.dup, 1) := nq_d dX11_takeClause_66_g (n := 36) rfl
theorem dX11_takeClause_134 : decode cX11_takeClause 134 = .ok (.getfield 135, 3) := nq_d dX11_takeClause_66_g (n := 37) rfl
theorem dX11_takeClause_137 : decode cX11_takeClause 137 = .ok (.iconst 1, 1) := nq_d dX11_takeClause_66_g (n := 38) rfl
theorem dX11_takeClause_138 : decode cX11_takeClause 138 = .ok (.iadd, 1) := nq_d dX11_takeClause_66_g (n := 39) rfl
noncomputable def dX11_takeClause_139_l : List (Nat × Instr × Nat) := [(139, .putfield 135, 3), (142, .iconst 0, 1), (143, .ireturn, 1)]
set_option maxRecDepth 100000 in
theorem dX11_takeClause_139_g : dX11_takeClause_139_l.all (fun x => decide (decode cX11_takeClause x.1 = .ok x.2)) = true := by decide +kernel
theorem dX11_takeClause_139 : decode cX11_takeClause 139 = .ok (.putfield 135, 3) := nq_d dX11_takeClause_139_g (n := 0) rfl
theorem dX11_takeClause_142 : decode cX11_takeClause 142 = .ok (.iconst 0, 1) := nq_d dX11_takeClause_139_g (n := 1) rfl
theorem dX11_takeClause_143 : decode cX11_takeClause 143 = .ok (.ireturn, 1) := nq_d dX11_takeClause_139_g (n := 2) rfl
set_option maxRecDepth 100000 in
theorem ggX11_hall_X11_bare : GoodIn wsX11_hall wsX11_bare := goodIn_sub (sub_c (nq_m (n := 10) rfl) (sub_c (nq_m (n := 11) rfl) (sub_c (nq_m (n := 12) rfl) (sub_c (nq_m (n := 13) rfl) (sub_c (nq_m (n := 14) rfl) (sub_c (nq_m (n := 15) rfl) (sub_c (nq_m (n := 89) rfl) (sub_c (nq_m (n := 90) rfl) (sub_c (nq_m (n := 91) rfl) (sub_c (nq_m (n := 92) rfl) (sub_c (nq_m (n := 93) rfl) (sub_c (nq_m (n := 94) rfl) (sub_c (nq_m (n := 95) rfl) (sub_c (nq_m (n := 96) rfl) (sub_c (nq_m (n := 97) rfl) (sub_c (nq_m (n := 98) rfl) (sub_c (nq_m (n := 99) rfl) (sub_c (nq_m (n := 100) rfl) (sub_c (nq_m (n := 101) rfl) (sub_c (nq_m (n := 102) rfl) (sub_c (nq_m (n := 103) rfl) (sub_c (nq_m (n := 104) rfl) (sub_c (nq_m (n := 105) rfl) (sub_c (nq_m (n := 106) rfl) (sub_c (nq_m (n := 107) rfl) (sub_c (nq_m (n := 108) rfl) (sub_c (nq_m (n := 109) rfl) (sub_c (nq_m (n := 110) rfl) (sub_c (nq_m (n := 111) rfl) (sub_c (nq_m (n := 112) rfl) (sub_c (nq_m (n := 113) rfl) (sub_c (nq_m (n := 114) rfl) (sub_c (nq_m (n := 115) rfl) (sub_c (nq_m (n := 116) rfl) (sub_c (nq_m (n := 117) rfl) (sub_c (nq_m (n := 118) rfl) (sub_c (nq_m (n := 119) rfl) (sub_c (nq_m (n := 120) rfl) (sub_c (nq_m (n := 121) rfl) (sub_c (nq_m (n := 122) rfl) (sub_c (nq_m (n := 123) rfl) (sub_c (nq_m (n := 124) rfl) (sub_c (nq_m (n := 125) rfl) (sub_c (nq_m (n := 126) rfl) (sub_c (nq_m (n := 127) rfl) (sub_c (nq_m (n := 128) rfl) (sub_c (nq_m (n := 129) rfl) (sub_c (nq_m (n := 130) rfl) (sub_c (nq_m (n := 131) rfl) (sub_c (nq_m (n := 132) rfl) (sub_c (nq_m (n := 133) rfl) (sub_c (nq_m (n := 134) rfl) (sub_c (nq_m (n := 135) rfl) (sub_c (nq_m (n := 136) rfl) (sub_c (nq_m (n := 137) rfl) (sub_c (nq_m (n := 138) rfl) (sub_c (nq_m (n := 139) rfl) (sub_c (nq_m (n := 140) rfl) (sub_c (nq_m (n := 141) rfl) (sub_c (nq_m (n := 142) rfl) (sub_c (nq_m (n := 143) rfl) (sub_c (nq_m (n := 144) rfl) (sub_c (nq_m (n := 145) rfl) (sub_c (nq_m (n := 146) rfl) sub_n)))))))))))))))))))))))))))))))))))))))))))))))))))))))))))))))) (by decide +kernel)
