theorem dX3_addRow_10 : decode cX3_addRow 10 = .ok (.getfield 24, 3) := nq_d dX3_addRow_0_g (n := 6) rfl
theorem dX3_addRow_13 : decode cX3_addRow 13 = .ok (.bipush 24, 2) := nq_d dX3_addRow_0_g (n := 7) rfl
theorem dX3_addRow_15 : decode cX3_addRow 15 = .ok (.if_icmp .ge 42, 3) := nq_d dX3_addRow_0_g (n := 8) rfl
theorem dX3_addRow_18 : decode cX3_addRow 18 = .ok (.aload_n 0, 1) := nq_d dX3_addRow_0_g (n := 9) rfl
theorem dX3_addRow_19 : decode cX3_addRow 19 = .ok (.getfield 9, 3) := nq_d dX3_addRow_0_g (n := 10) rfl
theorem dX3_addRow_22 : decode cX3_addRow 22 = .ok (.aload_n 0, 1) := nq_d dX3_addRow_0_g (n := 11) rfl
theorem dX3_addRow_23 : decode cX3_addRow 23 = .ok (.getfield 24, 3) := nq_d dX3_addRow_0_g (n := 12) rfl
theorem dX3_addRow_26 : decode cX3_addRow 26 = .ok (.iload_n 2, 1) := nq_d dX3_addRow_0_g (n := 13) rfl
theorem dX3_addRow_27 : decode cX3_addRow 27 = .ok (.iastore, 1) := nq_d dX3_addRow_0_g (n := 14) rfl
theorem dX3_addRow_28 : decode cX3_addRow 28 = .ok (.aload_n 0, 1) := nq_d dX3_addRow_0_g (n := 15) rfl
theorem dX3_addRow_29 : decode cX3_addRow 29 = .ok (.getfield 15, 3) := nq_d dX3_addRow_0_g (n := 16) rfl
theorem dX3_addRow_32 : decode cX3_addRow 32 = .ok (.aload_n 0, 1) := nq_d dX3_addRow_0_g (n := 17) rfl
theorem dX3_addRow_33 : decode cX3_addRow 33 = .ok (.getfield 24, 3) := nq_d dX3_addRow_0_g (n := 18) rfl
theorem dX3_addRow_36 : decode cX3_addRow 36 = .ok (.iload_n 3, 1) := nq_d dX3_addRow_0_g (n := 19) rfl
theorem dX3_addRow_37 : decode cX3_addRow 37 = .ok (.iload 4, 2) := nq_d dX3_addRow_0_g (n := 20) rfl
theorem dX3_addRow_39 : decode cX3_addRow 39 = .ok (.iadd, 1) := nq_d dX3_addRow_0_g (n := 21) rfl
theorem dX3_addRow_40 : decode cX3_addRow 40 = .ok (.iastore, 1) := nq_d dX3_addRow_0_g (n := 22) rfl
theorem dX3_addRow_41 : decode cX3_addRow 41 = .ok (.aload_n 0, 1) := nq_d dX3_addRow_0_g (n := 23) rfl
theorem dX3_addRow_42 : decode cX3_addRow 42 = .ok (.dup, 1) := nq_d dX3_addRow_0_g (n := 24) rfl
theorem dX3_addRow_43 : decode cX3_addRow 43 = .ok (.getfield 24, 3) := nq_d dX3_addRow_0_g (n := 25) rfl
theorem dX3_addRow_46 : decode cX3_addRow 46 = .ok (.iconst 1, 1) := nq_d dX3_addRow_0_g (n := 26) rfl
theorem dX3_addRow_47 : decode cX3_addRow 47 = .ok (.iadd, 1) := nq_d dX3_addRow_0_g (n := 27) rfl
theorem dX3_addRow_48 : decode cX3_addRow 48 = .ok (.putfield 24, 3) := nq_d dX3_addRow_0_g (n := 28) rfl
theorem dX3_addRow_51 : decode cX3_addRow 51 = .ok (.iinc 4 1, 3) := nq_d dX3_addRow_0_g (n := 29) rfl
theorem dX3_addRow_54 : decode cX3_addRow 54 = .ok (.goto (-51), 3) := nq_d dX3_addRow_0_g (n := 30) rfl
theorem dX3_addRow_57 : decode cX3_addRow 57 = .ok (.return_, 1) := nq_d dX3_addRow_0_g (n := 31) rfl
noncomputable def dX3_hasPeg_0_l : List (Nat × Instr × Nat) := [(0, .iload_n 1, 1), (1, .ifCond .lt 21, 3), (4, .iload_n 1, 1), (5, .aload_n 0, 1), (6, .getfield 24, 3), (9, .if_icmp .ge 13, 3), (12, .iload_n 1, 1), (13, .bipush 24, 2), (15, .if_icmp .ge 7, 3), (18, .iconst 1, 1), (19, .goto 4, 3), (22, .iconst 0, 1), (23, .ireturn, 1)]
set_option maxRecDepth 100000 in
theorem dX3_hasPeg_0_g : dX3_hasPeg_0_l.all (fun x => decide (decode cX3_hasPeg x.1 = .ok x.2)) = true := by decide +kernel
theorem dX3_hasPeg_0 : decode cX3_hasPeg 0 = .ok (.iload_n 1, 1) := nq_d dX3_hasPeg_0_g (n := 0) rfl
theorem dX3_hasPeg_1 : decode cX3_hasPeg 1 = .ok (.ifCond .lt 21, 3) := nq_d dX3_hasPeg_0_g (n := 1) rfl
theorem dX3_hasPeg_4 : decode cX3_hasPeg 4 = .ok (.iload_n 1, 1) := nq_d dX3_hasPeg_0_g (n := 2) rfl
theorem dX3_hasPeg_5 : decode cX3_hasPeg 5 = .ok (.aload_n 0, 1) := nq_d dX3_hasPeg_0_g (n := 3) rfl
theorem dX3_hasPeg_6 : decode cX3_hasPeg 6 = .ok (.getfield 24, 3) := nq_d dX3_hasPeg_0_g (n := 4) rfl
theorem dX3_hasPeg_9 : decode cX3_hasPeg 9 = .ok (.if_icmp .ge 13, 3) := nq_d dX3_hasPeg_0_g (n := 5) rfl
theorem dX3_hasPeg_12 : decode cX3_hasPeg 12 = .ok (.iload_n 1, 1) := nq_d dX3_hasPeg_0_g (n := 6) rfl
theorem dX3_hasPeg_13 : decode cX3_hasPeg 13 = .ok (.bipush 24, 2) := nq_d dX3_hasPeg_0_g (n := 7) rfl
theorem dX3_hasPeg_15 : decode cX3_hasPeg 15 = .ok (.if_icmp .ge 7, 3) := nq_d dX3_hasPeg_0_g (n := 8) rfl
theorem dX3_hasPeg_18 : decode cX3_hasPeg 18 = .ok (.iconst 1, 1) := nq_d dX3_hasPeg_0_g (n := 9) rfl
theorem dX3_hasPeg_19 : decode cX3_hasPeg 19 = .ok (.goto 4, 3) := nq_d dX3_hasPeg_0_g (n := 10) rfl
theorem dX3_hasPeg_22 : decode cX3_hasPeg 22 = .ok (.iconst 0, 1) := nq_d dX3_hasPeg_0_g (n := 11) rfl
theorem dX3_hasPeg_23 : decode cX3_hasPeg 23 = .ok (.ireturn, 1) := nq_d dX3_hasPeg_0_g (n := 12) rfl
set_option maxRecDepth 100000 in
theorem ggX3_isOfKind_X3_hasPeg : GoodIn wsX3_isOfKind wsX3_hasPeg := goodIn_sub (sub_c (nq_m (n := 6) rfl) (sub_c (nq_m (n := 7) rfl) (sub_c (nq_m (n := 8) rfl) (sub_c (nq_m (n := 9) rfl) (sub_c (nq_m (n := 10) rfl) (sub_c (nq_m (n := 11) rfl) (sub_c (nq_m (n := 12) rfl) (sub_c (nq_m (n := 13) rfl) (sub_c (nq_m (n := 14) rfl) sub_n))))))))) (by decide +kernel)
set_option maxRecDepth 100000 in
theorem gX3_isOfKind_X3_hasPeg : GoodIn wsX3_isOfKind (wsV RX3 46 RX3 yX3_hasPeg wsX3_hasPeg) := goodIn_app (goodIn_sub (sub_c (nq_m (n := 2) rfl) (sub_c (nq_m (n := 3) rfl) (sub_c (nq_m (n := 4) rfl) (sub_c (nq_m (n := 5) rfl) sub_n)))) (by decide +kernel)) ggX3_isOfKind_X3_hasPeg
noncomputable def dX3_isOfKind_0_l : List (Nat × Instr × Nat) := [(0, .aload_n 0, 1), (1, .iload_n 1, 1), (2, .invokevirtual 46, 3), (5, .ifCond .eq 17, 3), (8, .aload_n 0, 1), (9, .getfield 9, 3), (12, .iload_n 1, 1), (13, .iaload, 1), (14, .iload_n 2, 1), (15, .if_icmp .ne 7, 3), (18, .iconst 1, 1), (19, .goto 4, 3), (22, .iconst 0, 1), (23, .ireturn, 1)]
set_option maxRecDepth 100000 in
theorem dX3_isOfKind_0_g : dX3_isOfKind_0_l.all (fun x => decide (decode cX3_isOfKind x.1 = .ok x.2)) = true := by decide +kernel
theorem dX3_isOfKind_0 : decode cX3_isOfKind 0 = .ok (.aload_n 0, 1) := nq_d dX3_isOfKind_0_g (n := 0) rfl
theorem dX3_isOfKind_1 : decode cX3_isOfKind 1 = .ok (.iload_n 1, 1) := nq_d dX3_isOfKind_0_g (n := 1) rfl
theorem dX3_isOfKind_2 : decode cX3_isOfKind 2 = .ok (.invokevirtual 46, 3) := nq_d dX3_isOfKind_0_g (n := 2) rfl
theorem dX3_isOfKind_5 : decode cX3_isOfKind 5 = .ok (.ifCond .eq 17, 3) := nq_d dX3_isOfKind_0_g (n := 3) rfl
theorem dX3_isOfKind_8 : decode cX3_isOfKind 8 = .ok (.aload_n 0, 1) := nq_d dX3_isOfKind_0_g (n := 4) rfl
theorem dX3_isOfKind_9 : decode cX3_isOfKind 9 = .ok (.getfield 9, 3) := nq_d dX3_isOfKind_0_g (n := 5) rfl
theorem dX3_isOfKind_12 : decode cX3_isOfKind 12 = .ok (.iload_n 1, 1) := nq_d dX3_isOfKind_0_g (n := 6) rfl
theorem dX3_isOfKind_13 : decode cX3_isOfKind 13 = .ok (.iaload, 1) := nq_d dX3_isOfKind_0_g (n := 7) rfl
theorem dX3_isOfKind_14 : decode cX3_isOfKind 14 = .ok (.iload_n 2, 1) := nq_d dX3_isOfKind_0_g (n := 8) rfl
theorem dX3_isOfKind_15 : decode cX3_isOfKind 15 = .ok (.if_icmp .ne 7, 3) := nq_d dX3_isOfKind_0_g (n := 9) rfl
theorem dX3_isOfKind_18 : decode cX3_isOfKind 18 = .ok (.iconst 1, 1) := nq_d dX3_isOfKind_0_g (n := 10) rfl
theorem dX3_isOfKind_19 : decode cX3_isOfKind 19 = .ok (.goto 4, 3) := nq_d dX3_isOfKind_0_g (n := 11) rfl
theorem dX3_isOfKind_22 : decode cX3_isOfKind 22 = .ok (.iconst 0, 1) := nq_d dX3_isOfKind_0_g (n := 12) rfl
theorem dX3_isOfKind_23 : decode cX3_isOfKind 23 = .ok (.ireturn, 1) := nq_d dX3_isOfKind_0_g (n := 13) rfl
set_option maxRecDepth 100000 in
theorem ggX3_walkOf_X3_hasPeg : GoodIn wsX3_walkOf wsX3_hasPeg := goodIn_sub (sub_c (nq_m (n := 6) rfl) (sub_c (nq_m (n := 7) rfl) (sub_c (nq_m (n := 8) rfl) (sub_c (nq_m (n := 9) rfl) (sub_c (nq_m (n := 10) rfl) (sub_c (nq_m (n := 11) rfl) (sub_c (nq_m (n := 12) rfl) (sub_c (nq_m (n := 13) rfl) (sub_c (nq_m (n := 14) rfl) sub_n))))))))) (by decide +kernel)
set_option maxRecDepth 100000 in
theorem gX3_walkOf_X3_hasPeg : GoodIn wsX3_walkOf (wsV RX3 46 RX3 yX3_hasPeg wsX3_hasPeg) := goodIn_app (goodIn_sub (sub_c (nq_m (n := 2) rfl) (sub_c (nq_m (n := 3) rfl) (sub_c (nq_m (n := 4) rfl) (sub_c (nq_m (n := 5) rfl) sub_n)))) (by decide +kernel)) ggX3_walkOf_X3_hasPeg
noncomputable def dX3_walkOf_0_l : List (Nat × Instr × Nat) := [(0, .aload_n 0, 1), (1, .iload_n 1, 1), (2, .invokevirtual 46, 3), (5, .ifCond .eq 12, 3), (8, .aload_n 0, 1), (9, .getfield 15, 3), (12, .iload_n 1, 1), (13, .iaload, 1), (14, .goto 4, 3), (17, .iconst 0, 1), (18, .ireturn, 1)]
set_option maxRecDepth 100000 in
theorem dX3_walkOf_0_g : dX3_walkOf_0_l.all (fun x => decide (decode cX3_walkOf x.1 = .ok x.2)) = true := by decide +kernel
theorem dX3_walkOf_0 : decode cX3_walkOf 0 = .ok (.aload_n 0, 1) := nq_d dX3_walkOf_0_g (n := 0) rfl
theorem dX3_walkOf_1 : decode cX3_walkOf 1 = .ok (.iload_n 1, 1) := nq_d dX3_walkOf_0_g (n := 1) rfl
theorem dX3_walkOf_2 : decode cX3_walkOf 2 = .ok (.invokevirtual 46, 3) := nq_d dX3_walkOf_0_g (n := 2) rfl
theorem dX3_walkOf_5 : decode cX3_walkOf 5 = .ok (.ifCond .eq 12, 3) := nq_d dX3_walkOf_0_g (n := 3) rfl
theorem dX3_walkOf_8 : decode cX3_walkOf 8 = .ok (.aload_n 0, 1) := nq_d dX3_walkOf_0_g (n := 4) rfl
theorem dX3_walkOf_9 : decode cX3_walkOf 9 = .ok (.getfield 15, 3) := nq_d dX3_walkOf_0_g (n := 5) rfl
theorem dX3_walkOf_12 : decode cX3_walkOf 12 = .ok (.iload_n 1, 1) := nq_d dX3_walkOf_0_g (n := 6) rfl
theorem dX3_walkOf_13 : decode cX3_walkOf 13 = .ok (.iaload, 1) := nq_d dX3_walkOf_0_g (n := 7) rfl
theorem dX3_walkOf_14 : decode cX3_walkOf 14 = .ok (.goto 4, 3) := nq_d dX3_walkOf_0_g (n := 8) rfl
theorem dX3_walkOf_17 : decode cX3_walkOf 17 = .ok (.iconst 0, 1) := nq_d dX3_walkOf_0_g (n := 9) rfl
theorem dX3_walkOf_18 : decode cX3_walkOf 18 = .ok (.ireturn, 1) := nq_d dX3_walkOf_0_g (n := 10) rfl
set_option maxRecDepth 100000 in
theorem ggX3_shareOf_X10_within : GoodIn wsX3_shareOf wsX10_within := goodIn_sub (sub_c (nq_m (n := 4) rfl) sub_n) (by decide +kernel)
set_option maxRecDepth 100000 in
theorem gX3_shareOf_X10_within_n42 : GoodIn wsX3_shareOf (wsX10_within) := ggX3_shareOf_X10_within
noncomputable def dX3_shareOf_0_l : List (Nat × Instr × Nat) := [(0, .iload_n 1, 1), (1, .iconst 0, 1), (2, .iconst 3, 1), (3, .invokestatic 42, 3), (6, .ifCond .eq 12, 3), (9, .iload_n 2, 1), (10, .iconst 0, 1), (11, .iconst 2, 1), (12, .invokestatic 42, 3), (15, .ifCond .ne 5, 3), (18, .iconst 0, 1), (19, .ireturn, 1), (20, .aload_n 0, 1), (21, .getfield 18, 3), (24, .iload_n 1, 1), (25, .iconst 3, 1), (26, .imul, 1), (27, .iload_n 2, 1), (28, .iadd, 1), (29, .iaload, 1), (30, .ireturn, 1)]
set_option maxRecDepth 100000 in
theorem dX3_shareOf_0_g : dX3_shareOf_0_l.all (fun x => decide (decode cX3_shareOf x.1 = .ok x.2)) = true := by decide +kernel
theorem dX3_shareOf_0 : decode cX3_shareOf 0 = .ok (.iload_n 1, 1) := nq_d dX3_shareOf_0_g (n := 0) rfl
theorem dX3_shareOf_1 : decode cX3_shareOf 1 = .ok (.iconst 0, 1) := nq_d dX3_shareOf_0_g (n := 1) rfl
theorem dX3_shareOf_2 : decode cX3_shareOf 2 = .ok (.iconst 3, 1) := nq_d dX3_shareOf_0_g (n := 2) rfl
theorem dX3_shareOf_3 : decode cX3_shareOf 3 = .ok (.invokestatic 42, 3) := nq_d dX3_shareOf_0_g (n := 3) rfl
theorem dX3_shareOf_6 : decode cX3_shareOf 6 = .ok (.ifCond .eq 12, 3) := nq_d dX3_shareOf_0_g (n := 4) rfl
theorem dX3_shareOf_9 : decode cX3_shareOf 9 = .ok (.iload_n 2, 1) := nq_d dX3_shareOf_0_g (n := 5) rfl
theorem dX3_shareOf_10 : decode cX3_shareOf 10 = .ok (.iconst 0, 1) := nq_d dX3_shareOf_0_g (n := 6) rfl
theorem dX3_shareOf_11 : decode cX3_shareOf 11 = .ok (.iconst 2, 1) := nq_d dX3_shareOf_0_g (n := 7) rfl
theorem dX3_shareOf_12 : decode cX3_shareOf 12 = .ok (.invokestatic 42, 3) := nq_d dX3_shareOf_0_g (n := 8) rfl
theorem dX3_shareOf_15 : decode cX3_shareOf 15 = .ok (.ifCond .ne 5, 3) := nq_d dX3_shareOf_0_g (n := 9) rfl
theorem dX3_shareOf_18 : decode cX3_shareOf 18 = .ok (.iconst 0, 1) := nq_d dX3_shareOf_0_g (n := 10) rfl
theorem dX3_shareOf_19 : decode cX3_shareOf 19 = .ok (.ireturn, 1) := nq_d dX3_shareOf_0_g (n := 11) rfl
theorem dX3_shareOf_20 : decode cX3_shareOf 20 = .ok (.aload_n 0, 1) := nq_d dX3_shareOf_0_g (n := 12) rfl
theorem dX3_shareOf_21 : decode cX3_shareOf 21 = .ok (.getfield 18, 3) := nq_d dX3_shareOf_0_g (n := 13) rfl
theorem dX3_shareOf_24 : decode cX3_shareOf 24 = .ok (.iload_n 1, 1) := nq_d dX3_shareOf_0_g (n := 14) rfl
theorem dX3_shareOf_25 : decode cX3_shareOf 25 = .ok (.iconst 3, 1) := nq_d dX3_shareOf_0_g (n := 15) rfl
theorem dX3_shareOf_26 : decode cX3_shareOf 26 = .ok (.imul, 1) := nq_d dX3_shareOf_0_g (n := 16) rfl
theorem dX3_shareOf_27 : decode cX3_shareOf 27 = .ok (.iload_n 2, 1) := nq_d dX3_shareOf_0_g (n := 17) rfl
theorem dX3_shareOf_28 : decode cX3_shareOf 28 = .ok (.iadd, 1) := nq_d dX3_shareOf_0_g (n := 18) rfl
theorem dX3_shareOf_29 : decode cX3_shareOf 29 = .ok (.iaload, 1) := nq_d dX3_shareOf_0_g (n := 19) rfl
theorem dX3_shareOf_30 : decode cX3_shareOf 30 = .ok (.ireturn, 1) := nq_d dX3_shareOf_0_g (n := 20) rfl
set_option maxRecDepth 100000 in
theorem ggX3_weightOf_X10_within : GoodIn wsX3_weightOf wsX10_within := goodIn_sub (sub_c (nq_m (n := 4) rfl) sub_n) (by decide +kernel)
set_option maxRecDepth 100000 in
theorem gX3_weightOf_X10_within_n42 : GoodIn wsX3_weightOf (wsX10_within) := ggX3_weightOf_X10_within
noncomputable def dX3_weightOf_0_l : List (Nat × Instr × Nat) := [(0, .iload_n 1, 1), (1, .iconst 0, 1), (2, .iconst 2, 1), (3, .invokestatic 42, 3), (6, .ifCond .eq 12, 3), (9, .aload_n 0, 1), (10, .getfield 21, 3), (13, .iload_n 1, 1), (14, .iaload, 1), (15, .goto 4, 3), (18, .iconst 0, 1), (19, .ireturn, 1)]
set_option maxRecDepth 100000 in
theorem dX3_weightOf_0_g : dX3_weightOf_0_l.all (fun x => decide (decode cX3_weightOf x.1 = .ok x.2)) = true := by decide +kernel
theorem dX3_weightOf_0 : decode cX3_weightOf 0 = .ok (.iload_n 1, 1) := nq_d dX3_weightOf_0_g (n := 0) rfl
theorem dX3_weightOf_1 : decode cX3_weightOf 1 = .ok (.iconst 0, 1) := nq_d dX3_weightOf_0_g (n := 1) rfl
theorem dX3_weightOf_2 : decode cX3_weightOf 2 = .ok (.iconst 2, 1) := nq_d dX3_weightOf_0_g (n := 2) rfl
theorem dX3_weightOf_3 : decode cX3_weightOf 3 = .ok (.invokestatic 42, 3) := nq_d dX3_weightOf_0_g (n := 3) rfl
theorem dX3_weightOf_6 : decode cX3_weightOf 6 = .ok (.ifCond .eq 12, 3) := nq_d dX3_weightOf_0_g (n := 4) rfl
theorem dX3_weightOf_9 : decode cX3_weightOf 9 = .ok (.aload_n 0, 1) := nq_d dX3_weightOf_0_g (n := 5) rfl
theorem dX3_weightOf_10 : decode cX3_weightOf 10 = .ok (.getfield 21, 3) := nq_d dX3_weightOf_0_g (n := 6) rfl
theorem dX3_weightOf_13 : decode cX3_weightOf 13 = .ok (.iload_n 1, 1) := nq_d dX3_weightOf_0_g (n := 7) rfl
theorem dX3_weightOf_14 : decode cX3_weightOf 14 = .ok (.iaload, 1) := nq_d dX3_weightOf_0_g (n := 8) rfl
theorem dX3_weightOf_15 : decode cX3_weightOf 15 = .ok (.goto 4, 3) := nq_d dX3_weightOf_0_g (n := 9) rfl
theorem dX3_weightOf_18 : decode cX3_weightOf 18 = .ok (.iconst 0, 1) := nq_d dX3_weightOf_0_g (n := 10) rfl
theorem dX3_weightOf_19 : decode cX3_weightOf 19 = .ok (.ireturn, 1) := nq_d dX3_weightOf_0_g (n := 11) rfl
set_option maxRecDepth 100000 in
theorem ggX4_init_X2_init : GoodIn wsX4_init wsX2_init := goodIn_sub (sub_c (nq_m (n := 22) rfl) (sub_c (nq_m (n := 23) rfl) (sub_c (nq_m (n := 2) rfl) (sub_c (nq_m (n := 3) rfl) (sub_c (nq_m (n := 24) rfl) (sub_c (nq_m (n := 25) rfl) (sub_c (nq_m (n := 26) rfl) (sub_c (nq_m (n := 27) rfl) (sub_c (nq_m (n := 28) rfl) (sub_c (nq_m (n := 29) rfl) (sub_c (nq_m (n := 30) rfl) (sub_c (nq_m (n := 31) rfl) (sub_c (nq_m (n := 32) rfl) (sub_c (nq_m (n := 50) rfl) (sub_c (nq_m (n := 51) rfl) (sub_c (nq_m (n := 52) rfl) (sub_c (nq_m (n := 53) rfl) (sub_c (nq_m (n := 54) rfl) (sub_c (nq_m (n := 55) rfl) (sub_c (nq_m (n := 56) rfl) (sub_c (nq_m (n := 57) rfl) sub_n))))))))))))))))))))) (by decide +kernel)
set_option maxRecDepth 100000 in
theorem gX4_init_X2_init_n9 : GoodIn wsX4_init (wsX2_init) := ggX4_init_X2_init
set_option maxRecDepth 100000 in
theorem ggX4_init_X1_init : GoodIn wsX4_init wsX1_init := goodIn_sub (sub_c (nq_m (n := 34) rfl) (sub_c (nq_m (n := 35) rfl) (sub_c (nq_m (n := 2) rfl) (sub_c (nq_m (n := 3) rfl) (sub_c (nq_m (n := 36) rfl) (sub_c (nq_m (n := 25) rfl) (sub_c (nq_m (n := 37) rfl) (sub_c (nq_m (n := 63) rfl) (sub_c (nq_m (n := 64) rfl) sub_n))))))))) (by decide +kernel)
set_option maxRecDepth 100000 in
theorem gX4_init_X1_init_n18 : GoodIn wsX4_init (wsX1_init) := ggX4_init_X1_init
set_option maxRecDepth 100000 in
theorem ggX4_init_X0_init : GoodIn wsX4_init wsX0_init := goodIn_sub (sub_c (nq_m (n := 39) rfl) (sub_c (nq_m (n := 40) rfl) (sub_c (nq_m (n := 2) rfl) (sub_c (nq_m (n := 3) rfl) (sub_c (nq_m (n := 41) rfl) (sub_c (nq_m (n := 25) rfl) (sub_c (nq_m (n := 42) rfl) (sub_c (nq_m (n := 43) rfl) (sub_c (nq_m (n := 44) rfl) (sub_c (nq_m (n := 65) rfl) (sub_c (nq_m (n := 66) rfl) (sub_c (nq_m (n := 67) rfl) (sub_c (nq_m (n := 68) rfl) sub_n))))))))))))) (by decide +kernel)
set_option maxRecDepth 100000 in
theorem gX4_init_X0_init_n25 : GoodIn wsX4_init (wsX0_init) := ggX4_init_X0_init
set_option maxRecDepth 100000 in
theorem ggX4_init_X6_init : GoodIn wsX4_init wsX6_init := goodIn_sub (sub_c (nq_m (n := 46) rfl) (sub_c (nq_m (n := 47) rfl) (sub_c (nq_m (n := 2) rfl) (sub_c (nq_m (n := 3) rfl) (sub_c (nq_m (n := 48) rfl) (sub_c (nq_m (n := 25) rfl) (sub_c (nq_m (n := 49) rfl) (sub_c (nq_m (n := 69) rfl) (sub_c (nq_m (n := 70) rfl) sub_n))))))))) (by decide +kernel)
set_option maxRecDepth 100000 in
theorem gX4_init_X6_init_n32 : GoodIn wsX4_init (wsX6_init) := ggX4_init_X6_init
noncomputable def dX4_init_0_l : List (Nat × Instr × Nat) := [(0, .aload_n 0, 1), (1, .invokespecial 1, 3), (4, .aload_n 0, 1), (5, .new 7, 3), (8, .dup, 1), (9, .invokespecial 9, 3), (12, .putfield 10, 3), (15, .aload_n 0, 1), (16, .new 16, 3), (19, .dup, 1), (20, .invokespecial 18, 3), (23, .putfield 19, 3), (26, .aload_n 0, 1), (27, .new 23, 3), (30, .dup, 1), (31, .invokespecial 25, 3), (34, .putfield 26, 3), (37, .aload_n 0, 1), (38, .new 30, 3), (41, .dup, 1), (42, .invokespecial 32, 3), (45, .putfield 33, 3), (48, .aload_n 0, 1), (49, .iconst 0, 1), (50, .putfield 37, 3), (53, .return_, 1)]
set_option maxRecDepth 100000 in
theorem dX4_init_0_g : dX4_init_0_l.all (fun x => decide (decode cX4_init x.1 = .ok x.2)) = true := by decide +kernel
theorem dX4_init_0 : decode cX4_init 0 = .ok (.aload_n 0, 1) := nq_d dX4_init_0_g (n := 0) rfl
theorem dX4_init_1 : decode cX4_init 1 = .ok (.invokespecial 1, 3) := nq_d dX4_init_0_g (n := 1) rfl
theorem dX4_init_4 : decode cX4_init 4 = .ok (.aload_n 0, 1) := nq_d dX4_init_0_g (n := 2) rfl
theorem dX4_init_5 : decode cX4_init 5 = .ok (.new 7, 3) := nq_d dX4_init_0_g (n := 3) rfl
theorem dX4_init_8 : decode cX4_init 8 = .ok (.dup, 1) := nq_d dX4_init_0_g (n := 4) rfl
theorem dX4_init_9 : decode cX4_init 9 = .ok (.invokespecial 9, 3) := nq_d dX4_init_0_g (n := 5) rfl
theorem dX4_init_12 : decode cX4_init 12 = .ok (.putfield 10, 3) := nq_d dX4_init_0_g (n := 6) rfl
theorem dX4_init_15 : decode cX4_init 15 = .ok (.aload_n 0, 1) := nq_d dX4_init_0_g (n := 7) rfl
theorem dX4_init_16 : decode cX4_init 16 = .ok (.new 16, 3) := nq_d dX4_init_0_g (n := 8) rfl
theorem dX4_init_19 : decode cX4_init 19 = .ok (.dup, 1) := nq_d dX4_init_0_g (n := 9) rfl
theorem dX4_init_20 : decode cX4_init 20 = .ok (.invokespecial 18, 3) := nq_d dX4_init_0_g (n := 10) rfl
theorem dX4_init_23 : decode cX4_init 23 = .ok (.putfield 19, 3) := nq_d dX4_init_0_g (n := 11) rfl
theorem dX4_init_26 : decode cX4_init 26 = .ok (.aload_n 0, 1) := nq_d dX4_init_0_g (n := 12) rfl
theorem dX4_init_27 : decode cX4_init 27 = .ok (.new 23, 3) := nq_d dX4_init_0_g (n := 13) rfl
theorem dX4_init_30 : decode cX4_init 30 = .ok (.dup, 1) := nq_d dX4_init_0_g (n := 14) rfl
theorem dX4_init_31 : decode cX4_init 31 = .ok (.invokespecial 25, 3) := nq_d dX4_init_0_g (n := 15) rfl
theorem dX4_init_34 : decode cX4_init 34 = .ok (.putfield 26, 3) := nq_d dX4_init_0_g (n := 16) rfl
theorem dX4_init_37 : decode cX4_init 37 = .ok (.aload_n 0, 1) := nq_d dX4_init_0_g (n := 17) rfl
theorem dX4_init_38 : decode cX4_init 38 = .ok (.new 30, 3) := nq_d dX4_init_0_g (n := 18) rfl
theorem dX4_init_41 : decode cX4_init 41 = .ok (.dup, 1) := nq_d dX4_init_0_g (n := 19) rfl
theorem dX4_init_42 : decode cX4_init 42 = .ok (.invokespecial 32, 3) := nq_d dX4_init_0_g (n := 20) rfl
theorem dX4_init_45 : decode cX4_init 45 = .ok (.putfield 33, 3) := nq_d dX4_init_0_g (n := 21) rfl
theorem dX4_init_48 : decode cX4_init 48 = .ok (.aload_n 0, 1) := nq_d dX4_init_0_g (n := 22) rfl
theorem dX4_init_49 : decode cX4_init 49 = .ok (.iconst 0, 1) := nq_d dX4_init_0_g (n := 23) rfl
theorem dX4_init_50 : decode cX4_init 50 = .ok (.putfield 37, 3) := nq_d dX4_init_0_g (n := 24) rfl
theorem dX4_init_53 : decode cX4_init 53 = .ok (.return_, 1) := nq_d dX4_init_0_g (n := 25) rfl
set_option maxRecDepth 100000 in
theorem ggX4_copyFrom_X2_copyFrom : GoodIn wsX4_copyFrom wsX2_copyFrom := goodIn_sub (sub_c (nq_m (n := 9) rfl) (sub_c (nq_m (n := 10) rfl) (sub_c (nq_m (n := 11) rfl) (sub_c (nq_m (n := 12) rfl) (sub_c (nq_m (n := 13) rfl) (sub_c (nq_m (n := 14) rfl) (sub_c (nq_m (n := 15) rfl) (sub_c (nq_m (n := 16) rfl) (sub_c (nq_m (n := 17) rfl) (sub_c (nq_m (n := 18) rfl) (sub_c (nq_m (n := 19) rfl) (sub_c (nq_m (n := 20) rfl) (sub_c (nq_m (n := 21) rfl) (sub_c (nq_m (n := 53) rfl) (sub_c (nq_m (n := 54) rfl) (sub_c (nq_m (n := 55) rfl) (sub_c (nq_m (n := 56) rfl) (sub_c (nq_m (n := 57) rfl) (sub_c (nq_m (n := 58) rfl) (sub_c (nq_m (n := 59) rfl) (sub_c (nq_m (n := 60) rfl) sub_n))))))))))))))))))))) (by decide +kernel)
set_option maxRecDepth 100000 in
theorem gX4_copyFrom_X2_copyFrom : GoodIn wsX4_copyFrom (wsV RX4 41 RX2 yX2_copyFrom wsX2_copyFrom) := goodIn_app (goodIn_sub (sub_c (nq_m (n := 5) rfl) (sub_c (nq_m (n := 6) rfl) (sub_c (nq_m (n := 7) rfl) (sub_c (nq_m (n := 8) rfl) sub_n)))) (by decide +kernel)) ggX4_copyFrom_X2_copyFrom
set_option maxRecDepth 100000 in
theorem ggX4_copyFrom_X1_copyFrom : GoodIn wsX4_copyFrom wsX1_copyFrom := goodIn_sub (sub_c (nq_m (n := 26) rfl) (sub_c (nq_m (n := 27) rfl) (sub_c (nq_m (n := 28) rfl) (sub_c (nq_m (n := 29) rfl) (sub_c (nq_m (n := 13) rfl) (sub_c (nq_m (n := 14) rfl) (sub_c (nq_m (n := 15) rfl) (sub_c (nq_m (n := 61) rfl) (sub_c (nq_m (n := 62) rfl) sub_n))))))))) (by decide +kernel)
set_option maxRecDepth 100000 in
theorem gX4_copyFrom_X1_copyFrom : GoodIn wsX4_copyFrom (wsV RX4 45 RX1 yX1_copyFrom wsX1_copyFrom) := goodIn_app (goodIn_sub (sub_c (nq_m (n := 22) rfl) (sub_c (nq_m (n := 23) rfl) (sub_c (nq_m (n := 24) rfl) (sub_c (nq_m (n := 25) rfl) sub_n)))) (by decide +kernel)) ggX4_copyFrom_X1_copyFrom
set_option maxRecDepth 100000 in
theorem ggX4_copyFrom_X0_copyFrom : GoodIn wsX4_copyFrom wsX0_copyFrom := goodIn_sub (sub_c (nq_m (n := 34) rfl) (sub_c (nq_m (n := 35) rfl) (sub_c (nq_m (n := 36) rfl) (sub_c (nq_m (n := 37) rfl) (sub_c (nq_m (n := 13) rfl) (sub_c (nq_m (n := 14) rfl) (sub_c (nq_m (n := 15) rfl) (sub_c (nq_m (n := 38) rfl) (sub_c (nq_m (n := 39) rfl) (sub_c (nq_m (n := 63) rfl) (sub_c (nq_m (n := 64) rfl) (sub_c (nq_m (n := 65) rfl) (sub_c (nq_m (n := 66) rfl) sub_n))))))))))))) (by decide +kernel)
set_option maxRecDepth 100000 in
theorem gX4_copyFrom_X0_copyFrom : GoodIn wsX4_copyFrom (wsV RX4 48 RX0 yX0_copyFrom wsX0_copyFrom) := goodIn_app (goodIn_sub (sub_c (nq_m (n := 30) rfl) (sub_c (nq_m (n := 31) rfl) (sub_c (nq_m (n := 32) rfl) (sub_c (nq_m (n := 33) rfl) sub_n)))) (by decide +kernel)) ggX4_copyFrom_X0_copyFrom
set_option maxRecDepth 100000 in
theorem ggX4_copyFrom_X6_copyFrom : GoodIn wsX4_copyFrom wsX6_copyFrom := goodIn_sub (sub_c (nq_m (n := 44) rfl) (sub_c (nq_m (n := 45) rfl) (sub_c (nq_m (n := 46) rfl) (sub_c (nq_m (n := 47) rfl) (sub_c (nq_m (n := 13) rfl) (sub_c (nq_m (n := 14) rfl) (sub_c (nq_m (n := 15) rfl) (sub_c (nq_m (n := 67) rfl) (sub_c (nq_m (n := 68) rfl) sub_n))))))))) (by decide +kernel)
set_option maxRecDepth 100000 in
theorem gX4_copyFrom_X6_copyFrom : GoodIn wsX4_copyFrom (wsV RX4 51 RX6 yX6_copyFrom wsX6_copyFrom) := goodIn_app (goodIn_sub (sub_c (nq_m (n := 40) rfl) (sub_c (nq_m (n := 41) rfl) (sub_c (nq_m (n := 42) rfl) (sub_c (nq_m (n := 43) rfl) sub_n)))) (by decide +kernel)) ggX4_copyFrom_X6_copyFrom
noncomputable def dX4_copyFrom_0_l : List (Nat × Instr × Nat) := [(0, .aload_n 0, 1), (1, .getfield 10, 3), (4, .aload_n 1, 1), (5, .getfield 10, 3), (8, .invokevirtual 41, 3), (11, .aload_n 0, 1), (12, .getfield 19, 3), (15, .aload_n 1, 1), (16, .getfield 19, 3), (19, .invokevirtual 45, 3), (22, .aload_n 0, 1), (23, .getfield 26, 3), (26, .aload_n 1, 1), (27, .getfield 26, 3), (30, .invokevirtual 48, 3), (33, .aload_n 0, 1), (34, .getfield 33, 3), (37, .aload_n 1, 1), (38, .getfield 33, 3), (41, .invokevirtual 51, 3), (44, .return_, 1)]
set_option maxRecDepth 100000 in
theorem dX4_copyFrom_0_g : dX4_copyFrom_0_l.all (fun x => decide (decode cX4_copyFrom x.1 = .ok x.2)) = true := by decide +kernel
theorem dX4_copyFrom_0 : decode cX4_copyFrom 0 = .ok (.aload_n 0, 1) := nq_d dX4_copyFrom_0_g (n := 0) rfl
theorem dX4_copyFrom_1 : decode cX4_copyFrom 1 = .ok (.getfield 10, 3) := nq_d dX4_copyFrom_0_g (n := 1) rfl
theorem dX4_copyFrom_4 : decode cX4_copyFrom 4 = .ok (.aload_n 1, 1) := nq_d dX4_copyFrom_0_g (n := 2) rfl
theorem dX4_copyFrom_5 : decode cX4_copyFrom 5 = .ok (.getfield 10, 3) := nq_d dX4_copyFrom_0_g (n := 3) rfl
theorem dX4_copyFrom_8 : decode cX4_copyFrom 8 = .ok (.invokevirtual 41, 3) := nq_d dX4_copyFrom_0_g (n := 4) rfl
theorem dX4_copyFrom_11 : decode cX4_copyFrom 11 = .ok (.aload_n 0, 1) := nq_d dX4_copyFrom_0_g (n := 5) rfl
theorem dX4_copyFrom_12 : decode cX4_copyFrom 12 = .ok (.getfield 19, 3) := nq_d dX4_copyFrom_0_g (n := 6) rfl
theorem dX4_copyFrom_15 : decode cX4_copyFrom 15 = .ok (.aload_n 1, 1) := nq_d dX4_copyFrom_0_g (n := 7) rfl
theorem dX4_copyFrom_16 : decode cX4_copyFrom 16 = .ok (.getfield 19, 3) := nq_d dX4_copyFrom_0_g (n := 8) rfl
theorem dX4_copyFrom_19 : decode cX4_copyFrom 19 = .ok (.invokevirtual 45, 3) := nq_d dX4_copyFrom_0_g (n := 9) rfl
theorem dX4_copyFrom_22 : decode cX4_copyFrom 22 = .ok (.aload_n 0, 1) := nq_d dX4_copyFrom_0_g (n := 10) rfl
theorem dX4_copyFrom_23 : decode cX4_copyFrom 23 = .ok (.getfield 26, 3) := nq_d dX4_copyFrom_0_g (n := 11) rfl
theorem dX4_copyFrom_26 : decode cX4_copyFrom 26 = .ok (.aload_n 1, 1) := nq_d dX4_copyFrom_0_g (n := 12) rfl
theorem dX4_copyFrom_27 : decode cX4_copyFrom 27 = .ok (.getfield 26, 3) := nq_d dX4_copyFrom_0_g (n := 13) rfl
theorem dX4_copyFrom_30 : decode cX4_copyFrom 30 = .ok (.invokevirtual 48, 3) := nq_d dX4_copyFrom_0_g (n := 14) rfl
theorem dX4_copyFrom_33 : decode cX4_copyFrom 33 = .ok (.aload_n 0, 1) := nq_d dX4_copyFrom_0_g (n := 15) rfl
theorem dX4_copyFrom_34 : decode cX4_copyFrom 34 = .ok (.getfield 33, 3) := nq_d dX4_copyFrom_0_g (n := 16) rfl
theorem dX4_copyFrom_37 : decode cX4_copyFrom 37 = .ok (.aload_n 1, 1) := nq_d dX4_copyFrom_0_g (n := 17) rfl
theorem dX4_copyFrom_38 : decode cX4_copyFrom 38 = .ok (.getfield 33, 3) := nq_d dX4_copyFrom_0_g (n := 18) rfl
theorem dX4_copyFrom_41 : decode cX4_copyFrom 41 = .ok (.invokevirtual 51, 3) := nq_d dX4_copyFrom_0_g (n := 19) rfl
theorem dX4_copyFrom_44 : decode cX4_copyFrom 44 = .ok (.return_, 1) := nq_d dX4_copyFrom_0_g (n := 20) rfl
noncomputable def dX5_init_0_l : List (Nat × Instr × Nat) := [(0, .aload_n 0, 1), (1, .invokespecial 3, 3), (4, .aload_n 0, 1), (5, .bipush 6, 2), (7, .newarray .int, 2), (9, .putfield 9, 3), (12, .aload_n 0, 1), (13, .bipush 64, 2), (15, .newarray .long, 2), (17, .putfield 15, 3), (20, .aload_n 0, 1), (21, .iconst 0, 1), (22, .putfield 19, 3), (25, .return_, 1)]
set_option maxRecDepth 100000 in
theorem dX5_init_0_g : dX5_init_0_l.all (fun x => decide (decode cX5_init x.1 = .ok x.2)) = true := by decide +kernel
theorem dX5_init_0 : decode cX5_init 0 = .ok (.aload_n 0, 1) := nq_d dX5_init_0_g (n := 0) rfl
theorem dX5_init_1 : decode cX5_init 1 = .ok (.invokespecial 3, 3) := nq_d dX5_init_0_g (n := 1) rfl
theorem dX5_init_4 : decode cX5_init 4 = .ok (.aload_n 0, 1) := nq_d dX5_init_0_g (n := 2) rfl
theorem dX5_init_5 : decode cX5_init 5 = .ok (.bipush 6, 2) := nq_d dX5_init_0_g (n := 3) rfl
theorem dX5_init_7 : decode cX5_init 7 = .ok (.newarray .int, 2) := nq_d dX5_init_0_g (n := 4) rfl
theorem dX5_init_9 : decode cX5_init 9 = .ok (.putfield 9, 3) := nq_d dX5_init_0_g (n := 5) rfl
theorem dX5_init_12 : decode cX5_init 12 = .ok (.aload_n 0, 1) := nq_d dX5_init_0_g (n := 6) rfl
theorem dX5_init_13 : decode cX5_init 13 = .ok (.bipush 64, 2) := nq_d dX5_init_0_g (n := 7) rfl
theorem dX5_init_15 : decode cX5_init 15 = .ok (.newarray .long, 2) := nq_d dX5_init_0_g (n := 8) rfl
theorem dX5_init_17 : decode cX5_init 17 = .ok (.putfield 15, 3) := nq_d dX5_init_0_g (n := 9) rfl
theorem dX5_init_20 : decode cX5_init 20 = .ok (.aload_n 0, 1) := nq_d dX5_init_0_g (n := 10) rfl
theorem dX5_init_21 : decode cX5_init 21 = .ok (.iconst 0, 1) := nq_d dX5_init_0_g (n := 11) rfl
theorem dX5_init_22 : decode cX5_init 22 = .ok (.putfield 19, 3) := nq_d dX5_init_0_g (n := 12) rfl
theorem dX5_init_25 : decode cX5_init 25 = .ok (.return_, 1) := nq_d dX5_init_0_g (n := 13) rfl
set_option maxRecDepth 100000 in
theorem ggX5_load_X0_thingsFor : GoodIn wsX5_load wsX0_thingsFor := goodIn_sub (sub_c (nq_m (n := 12) rfl) (sub_c (nq_m (n := 13) rfl) (sub_c (nq_m (n := 14) rfl) (sub_c (nq_m (n := 15) rfl) (sub_c (nq_m (n := 16) rfl) (sub_c (nq_m (n := 17) rfl) (sub_c (nq_m (n := 18) rfl) (sub_c (nq_m (n := 19) rfl) (sub_c (nq_m (n := 11) rfl) (sub_c (nq_m (n := 20) rfl) (sub_c (nq_m (n := 21) rfl) (sub_c (nq_m (n := 22) rfl) (sub_c (nq_m (n := 23) rfl) (sub_c (nq_m (n := 24) rfl) (sub_c (nq_m (n := 25) rfl) (sub_c (nq_m (n := 26) rfl) (sub_c (nq_m (n := 27) rfl) (sub_c (nq_m (n := 28) rfl) (sub_c (nq_m (n := 29) rfl) (sub_c (nq_m (n := 30) rfl) (sub_c (nq_m (n := 31) rfl) (sub_c (nq_m (n := 32) rfl) (sub_c (nq_m (n := 33) rfl) (sub_c (nq_m (n := 34) rfl) (sub_c (nq_m (n := 35) rfl) (sub_c (nq_m (n := 36) rfl) (sub_c (nq_m (n := 37) rfl) (sub_c (nq_m (n := 38) rfl) (sub_c (nq_m (n := 39) rfl) (sub_c (nq_m (n := 40) rfl) (sub_c (nq_m (n := 41) rfl) (sub_c (nq_m (n := 42) rfl) (sub_c (nq_m (n := 43) rfl) (sub_c (nq_m (n := 44) rfl) (sub_c (nq_m (n := 45) rfl) (sub_c (nq_m (n := 46) rfl) (sub_c (nq_m (n := 50) rfl) (sub_c (nq_m (n := 51) rfl) (sub_c (nq_m (n := 52) rfl) (sub_c (nq_m (n := 53) rfl) (sub_c (nq_m (n := 54) rfl) (sub_c (nq_m (n := 55) rfl) (sub_c (nq_m (n := 56) rfl) (sub_c (nq_m (n := 57) rfl) sub_n)))))))))))))))))))))))))))))))))))))))))))) (by decide +kernel)
set_option maxRecDepth 100000 in
theorem gX5_load_X0_thingsFor : GoodIn wsX5_load (wsV RX5 34 RX0 yX0_thingsFor wsX0_thingsFor) := goodIn_app (goodIn_sub (sub_c (nq_m (n := 8) rfl) (sub_c (nq_m (n := 9) rfl) (sub_c (nq_m (n := 10) rfl) (sub_c (nq_m (n := 11) rfl) sub_n)))) (by decide +kernel)) ggX5_load_X0_thingsFor
noncomputable def dX5_load_0_l : List (Nat × Instr × Nat) := [(0, .aload_n 0, 1), (1, .aload_n 1, 1), (2, .getfield 23, 3), (5, .bipush 6, 2), (7, .invokestatic 28, 3), (10, .putfield 19, 3), (13, .iconst 0, 1), (14, .istore_n 3, 1), (15, .iload_n 3, 1), (16, .aload_n 0, 1), (17, .getfield 19, 3), (20, .if_icmp .ge 21, 3), (23, .aload_n 0, 1), (24, .getfield 9, 3), (27, .iload_n 3, 1), (28, .aload_n 1, 1), (29, .iload_n 3, 1), (30, .aload_n 2, 1), (31, .invokevirtual 34, 3), (34, .iastore, 1), (35, .iinc 3 1, 3), (38, .goto (-23), 3), (41, .return_, 1)]
set_option maxRecDepth 100000 in
theorem dX5_load_0_g : dX5_load_0_l.all (fun x => decide (decode cX5_load x.1 = .ok x.2)) = true := by decide +kernel
theorem dX5_load_0 : decode cX5_load 0 = .ok (.aload_n 0, 1) := nq_d dX5_load_0_g (n := 0) rfl
theorem dX5_load_1 : decode cX5_load 1 = .ok (.aload_n 1, 1) := nq_d dX5_load_0_g (n := 1) rfl
theorem dX5_load_2 : decode cX5_load 2 = .ok (.getfield 23, 3) := nq_d dX5_load_0_g (n := 2) rfl
theorem dX5_load_5 : decode cX5_load 5 = .ok (.bipush 6, 2) := nq_d dX5_load_0_g (n := 3) rfl
theorem dX5_load_7 : decode cX5_load 7 = .ok (.invokestatic 28, 3) := nq_d dX5_load_0_g (n := 4) rfl
theorem dX5_load_10 : decode cX5_load 10 = .ok (.putfield 19, 3) := nq_d dX5_load_0_g (n := 5) rfl
theorem dX5_load_13 : decode cX5_load 13 = .ok (.iconst 0, 1) := nq_d dX5_load_0_g (n := 6) rfl
theorem dX5_load_14 : decode cX5_load 14 = .ok (.istore_n 3, 1) := nq_d dX5_load_0_g (n := 7) rfl
theorem dX5_load_15 : decode cX5_load 15 = .ok (.iload_n 3, 1) := nq_d dX5_load_0_g (n := 8) rfl
theorem dX5_load_16 : decode cX5_load 16 = .ok (.aload_n 0, 1) := nq_d dX5_load_0_g (n := 9) rfl
theorem dX5_load_17 : decode cX5_load 17 = .ok (.getfield 19, 3) := nq_d dX5_load_0_g (n := 10) rfl
theorem dX5_load_20 : decode cX5_load 20 = .ok (.if_icmp .ge 21, 3) := nq_d dX5_load_0_g (n := 11) rfl
theorem dX5_load_23 : decode cX5_load 23 = .ok (.aload_n 0, 1) := nq_d dX5_load_0_g (n := 12) rfl
theorem dX5_load_24 : decode cX5_load 24 = .ok (.getfield 9, 3) := nq_d dX5_load_0_g (n := 13) rfl
theorem dX5_load_27 : decode cX5_load 27 = .ok (.iload_n 3, 1) := nq_d dX5_load_0_g (n := 14) rfl
theorem dX5_load_28 : decode cX5_load 28 = .ok (.aload_n 1, 1) := nq_d dX5_load_0_g (n := 15) rfl
theorem dX5_load_29 : decode cX5_load 29 = .ok (.iload_n 3, 1) := nq_d dX5_load_0_g (n := 16) rfl
theorem dX5_load_30 : decode cX5_load 30 = .ok (.aload_n 2, 1) := nq_d dX5_load_0_g (n := 17) rfl
theorem dX5_load_31 : decode cX5_load 31 = .ok (.invokevirtual 34, 3) := nq_d dX5_load_0_g (n := 18) rfl
theorem dX5_load_34 : decode cX5_load 34 = .ok (.iastore, 1) := nq_d dX5_load_0_g (n := 19) rfl
theorem dX5_load_35 : decode cX5_load 35 = .ok (.iinc 3 1, 3) := nq_d dX5_load_0_g (n := 20) rfl
theorem dX5_load_38 : decode cX5_load 38 = .ok (.goto (-23), 3) := nq_d dX5_load_0_g (n := 21) rfl
theorem dX5_load_41 : decode cX5_load 41 = .ok (.return_, 1) := nq_d dX5_load_0_g (n := 22) rfl
set_option maxRecDepth 100000 in
theorem ggX5_number_X5_addWays : GoodIn wsX5_number wsX5_addWays := goodIn_sub (sub_c (nq_m (n := 8) rfl) (sub_c (nq_m (n := 1) rfl) (sub_c (nq_m (n := 2) rfl) (sub_c (nq_m (n := 3) rfl) (sub_c (nq_m (n := 9) rfl) (sub_c (nq_m (n := 10) rfl) (sub_c (nq_m (n := 11) rfl) sub_n))))))) (by decide +kernel)
set_option maxRecDepth 100000 in
theorem gX5_number_X5_addWays : GoodIn wsX5_number (wsV RX5 38 RX5 yX5_addWays wsX5_addWays) := goodIn_app (goodIn_sub (sub_c (nq_m (n := 4) rfl) (sub_c (nq_m (n := 5) rfl) (sub_c (nq_m (n := 6) rfl) (sub_c (nq_m (n := 7) rfl) sub_n)))) (by decide +kernel)) ggX5_number_X5_addWays
noncomputable def dX5_number_0_l : List (Nat × Instr × Nat) := [(0, .iconst 1, 1), (1, .aload_n 0, 1), (2, .getfield 19, 3), (5, .ishl, 1), (6, .iconst 1, 1), (7, .isub, 1), (8, .istore_n 1, 1), (9, .iconst 0, 1), (10, .istore_n 2, 1), (11, .iconst 0, 1), (12, .istore_n 3, 1), (13, .iload_n 3, 1), (14, .aload_n 0, 1), (15, .getfield 19, 3), (18, .if_icmp .ge 18, 3), (21, .iload_n 2, 1), (22, .aload_n 0, 1), (23, .getfield 9, 3), (26, .iload_n 3, 1), (27, .iaload, 1), (28, .ior, 1), (29, .istore_n 2, 1), (30, .iinc 3 1, 3), (33, .goto (-20), 3), (36, .iconst 0, 1), (37, .istore_n 3, 1), (38, .iload_n 3, 1), (39, .iload_n 1, 1), (40, .if_icmp .gt 16, 3), (43, .aload_n 0, 1), (44, .getfield 15, 3), (47, .iload_n 3, 1), (48, .lconst 0, 1), (49, .lastore, 1), (50, .iinc 3 1, 3), (53, .goto (-15), 3), (56, .aload_n 0, 1), (57, .getfield 15, 3), (60, .iconst 0, 1), (61, .lconst 1, 1)]
set_option maxRecDepth 100000 in
theorem dX5_number_0_g : dX5_number_0_l.all (fun x => decide (decode cX5_number x.1 = .ok x.2)) = true := by decide +kernel
theorem dX5_number_0 : decode cX5_number 0 = .ok (.iconst 1, 1) := nq_d dX5_number_0_g (n := 0) rfl
theorem dX5_number_1 : decode cX5_number 1 = .ok (.aload_n 0, 1) := nq_d dX5_number_0_g (n := 1) rfl
theorem dX5_number_2 : decode cX5_number 2 = .ok (.getfield 19, 3) := nq_d dX5_number_0_g (n := 2) rfl
theorem dX5_number_5 : decode cX5_number 5 = .ok (.ishl, 1) := nq_d dX5_number_0_g (n := 3) rfl
theorem dX5_number_6 : decode cX5_number 6 = .ok (.iconst 1, 1) := nq_d dX5_number_0_g (n := 4) rfl
theorem dX5_number_7 : decode cX5_number 7 = .ok (.isub, 1) := nq_d dX5_number_0_g (n := 5) rfl
theorem dX5_number_8 : decode cX5_number 8 = .ok (.istore_n 1, 1) := nq_d dX5_number_0_g (n := 6) rfl
theorem dX5_number_9 : decode cX5_number 9 = .ok (.iconst 0, 1) := nq_d dX5_number_0_g (n := 7) rfl
theorem dX5_number_10 : decode cX5_number 10 = .ok (.istore_n 2, 1) := nq_d dX5_number_0_g (n := 8) rfl
theorem dX5_number_11 : decode cX5_number 11 = .ok (.iconst 0, 1) := nq_d dX5_number_0_g (n := 9) rfl
theorem dX5_number_12 : decode cX5_number 12 = .ok (.istore_n 3, 1) := nq_d dX5_number_0_g (n := 10) rfl
theorem dX5_number_13 : decode cX5_number 13 = .ok (.iload_n 3, 1) := nq_d dX5_number_0_g (n := 11) rfl
theorem dX5_number_14 : decode cX5_number 14 = .ok (.aload_n 0, 1) := nq_d dX5_number_0_g (n := 12) rfl
theorem dX5_number_15 : decode cX5_number 15 = .ok (.getfield 19, 3) := nq_d dX5_number_0_g (n := 13) rfl
theorem dX5_number_18 : decode cX5_number 18 = .ok (.if_icmp .ge 18, 3) := nq_d dX5_number_0_g (n := 14) rfl
theorem dX5_number_21 : decode cX5_number 21 = .ok (.iload_n 2, 1) := nq_d dX5_number_0_g (n := 15) rfl
theorem dX5_number_22 : decode cX5_number 22 = .ok (.aload_n 0, 1) := nq_d dX5_number_0_g (n := 16) rfl
theorem dX5_number_23 : decode cX5_number 23 = .ok (.getfield 9, 3) := nq_d dX5_number_0_g (n := 17) rfl
theorem dX5_number_26 : decode cX5_number 26 = .ok (.iload_n 3, 1) := nq_d dX5_number_0_g (n := 18) rfl
theorem dX5_number_27 : decode cX5_number 27 = .ok (.iaload, 1) := nq_d dX5_number_0_g (n := 19) rfl
theorem dX5_number_28 : decode cX5_number 28 = .ok (.ior, 1) := nq_d dX5_number_0_g (n := 20) rfl
theorem dX5_number_29 : decode cX5_number 29 = .ok (.istore_n 2, 1) := nq_d dX5_number_0_g (n := 21) rfl
theorem dX5_number_30 : decode cX5_number 30 = .ok (.iinc 3 1, 3) := nq_d dX5_number_0_g (n := 22) rfl
theorem dX5_number_33 : decode cX5_number 33 = .ok (.goto (-20), 3) := nq_d dX5_number_0_g (n := 23) rfl
theorem dX5_number_36 : decode cX5_number 36 = .ok (.iconst 0, 1) := nq_d dX5_number_0_g (n := 24) rfl
theorem dX5_number_37 : decode cX5_number 37 = .ok (.istore_n 3, 1) := nq_d dX5_number_0_g (n := 25) rfl
theorem dX5_number_38 : decode cX5_number 38 = .ok (.iload_n 3, 1) := nq_d dX5_number_0_g (n := 26) rfl
theorem dX5_number_39 : decode cX5_number 39 = .ok (.iload_n 1, 1) := nq_d dX5_number_0_g (n := 27) rfl
theorem dX5_number_40 : decode cX5_number 40 = .ok (.if_icmp .gt 16, 3) := nq_d dX5_number_0_g (n := 28) rfl
theorem dX5_number_43 : decode cX5_number 43 = .ok (.aload_n 0, 1) := nq_d dX5_number_0_g (n := 29) rfl
theorem dX5_number_44 : decode cX5_number 44 = .ok (.getfield 15, 3) := nq_d dX5_number_0_g (n := 30) rfl
theorem dX5_number_47 : decode cX5_number 47 = .ok (.iload_n 3, 1) := nq_d dX5_number_0_g (n := 31) rfl
theorem dX5_number_48 : decode cX5_number 48 = .ok (.lconst 0, 1) := nq_d dX5_number_0_g (n := 32) rfl
theorem dX5_number_49 : decode cX5_number 49 = .ok (.lastore, 1) := nq_d dX5_number_0_g (n := 33) rfl
theorem dX5_number_50 : decode cX5_number 50 = .ok (.iinc 3 1, 3) := nq_d dX5_number_0_g (n := 34) rfl
theorem dX5_number_53 : decode cX5_number 53 = .ok (.goto (-15), 3) := nq_d dX5_number_0_g (n := 35) rfl
theorem dX5_number_56 : decode cX5_number 56 = .ok (.aload_n 0, 1) := nq_d dX5_number_0_g (n := 36) rfl
theorem dX5_number_57 : decode cX5_number 57 = .ok (.getfield 15, 3) := nq_d dX5_number_0_g (n := 37) rfl
theorem dX5_number_60 : decode cX5_number 60 = .ok (.iconst 0, 1) := nq_d dX5_number_0_g (n := 38) rfl
theorem dX5_number_61 : decode cX5_number 61 = .ok (.lconst 1, 1) := nq_d dX5_number_0_g (n := 39) rfl
noncomputable def dX5_number_62_l : List (Nat × Instr × Nat) := [(62, .lastore, 1), (63, .iconst 0, 1), (64, .istore_n 3, 1), (65, .iload_n 3, 1), (66, .bipush 16, 2), (68, .if_icmp .ge 41, 3), (71, .iload_n 2, 1), (72, .iload_n 3, 1), (73, .ishr, 1), (74, .iconst 1, 1), (75, .iand, 1), (76, .ifCond .ne 6, 3), (79, .goto 24, 3), (82, .iload_n 1, 1), (83, .istore 4, 2), (85, .iload 4, 2), (87, .ifCond .le 16, 3), (90, .aload_n 0, 1), (91, .iload 4, 2), (93, .iload_n 3, 1), (94, .invokevirtual 38, 3), (97, .iinc 4 (-1), 3), (100, .goto (-15), 3), (103, .iinc 3 1, 3), (106, .goto (-41), 3), (109, .aload_n 0, 1), (110, .getfield 15, 3), (113, .iload_n 1, 1), (114, .laload, 1), (115, .lreturn, 1)]
set_option maxRecDepth 100000 in
theorem dX5_number_62_g : dX5_number_62_l.all (fun x => decide (decode cX5_number x.1 = .ok x.2)) = true := by decide +kernel
theorem dX5_number_62 : decode cX5_number 62 = .ok (.lastore, 1) := nq_d dX5_number_62_g (n := 0) rfl
theorem dX5_number_63 : decode cX5_number 63 = .ok (.iconst 0, 1) := nq_d dX5_number_62_g (n := 1) rfl
theorem dX5_number_64 : decode cX5_number 64 = .ok (.istore_n 3, 1) := nq_d dX5_number_62_g (n := 2) rfl
theorem dX5_number_65 : decode cX5_number 65 = .ok (.iload_n 3, 1) := nq_d dX5_number_62_g (n := 3) rfl
theorem dX5_number_66 : decode cX5_number 66 = .ok (.bipush 16, 2) := nq_d dX5_number_62_g (n := 4) rfl
theorem dX5_number_68 : decode cX5_number 68 = .ok (.if_icmp .ge 41, 3) := nq_d dX5_number_62_g (n := 5) rfl
theorem dX5_number_71 : decode cX5_number 71 = .ok (.iload_n 2, 1) := nq_d dX5_number_62_g (n := 6) rfl
theorem dX5_number_72 : decode cX5_number 72 = .ok (.iload_n 3, 1) := nq_d dX5_number_62_g (n := 7) rfl
theorem dX5_number_73 : decode cX5_number 73 = .ok (.ishr, 1) := nq_d dX5_number_62_g (n := 8) rfl
theorem dX5_number_74 : decode cX5_number 74 = .ok (.iconst 1, 1) := nq_d dX5_number_62_g (n := 9) rfl
theorem dX5_number_75 : decode cX5_number 75 = .ok (.iand, 1) := nq_d dX5_number_62_g (n := 10) rfl
theorem dX5_number_76 : decode cX5_number 76 = .ok (.ifCond .ne 6, 3) := nq_d dX5_number_62_g (n := 11) rfl
theorem dX5_number_79 : decode cX5_number 79 = .ok (.goto 24, 3) := nq_d dX5_number_62_g (n := 12) rfl
theorem dX5_number_82 : decode cX5_number 82 = .ok (.iload_n 1, 1) := nq_d dX5_number_62_g (n := 13) rfl
theorem dX5_number_83 : decode cX5_number 83 = .ok (.istore 4, 2) := nq_d dX5_number_62_g (n := 14) rfl
theorem dX5_number_85 : decode cX5_number 85 = .ok (.iload 4, 2) := nq_d dX5_number_62_g (n := 15) rfl
theorem dX5_number_87 : decode cX5_number 87 = .ok (.ifCond .le 16, 3) := nq_d dX5_number_62_g (n := 16) rfl
theorem dX5_number_90 : decode cX5_number 90 = .ok (.aload_n 0, 1) := nq_d dX5_number_62_g (n := 17) rfl
theorem dX5_number_91 : decode cX5_number 91 = .ok (.iload 4, 2) := nq_d dX5_number_62_g (n := 18) rfl
theorem dX5_number_93 : decode cX5_number 93 = .ok (.iload_n 3, 1) := nq_d dX5_number_62_g (n := 19) rfl
theorem dX5_number_94 : decode cX5_number 94 = .ok (.invokevirtual 38, 3) := nq_d dX5_number_62_g (n := 20) rfl
theorem dX5_number_97 : decode cX5_number 97 = .ok (.iinc 4 (-1), 3) := nq_d dX5_number_62_g (n := 21) rfl
theorem dX5_number_100 : decode cX5_number 100 = .ok (.goto (-15), 3) := nq_d dX5_number_62_g (n := 22) rfl
theorem dX5_number_103 : decode cX5_number 103 = .ok (.iinc 3 1, 3) := nq_d dX5_number_62_g (n := 23) rfl
theorem dX5_number_106 : decode cX5_number 106 = .ok (.goto (-41), 3) := nq_d dX5_number_62_g (n := 24) rfl
theorem dX5_number_109 : decode cX5_number 109 = .ok (.aload_n 0, 1) := nq_d dX5_number_62_g (n := 25) rfl
theorem dX5_number_110 : decode cX5_number 110 = .ok (.getfield 15, 3) := nq_d dX5_number_62_g (n := 26) rfl
theorem dX5_number_113 : decode cX5_number 113 = .ok (.iload_n 1, 1) := nq_d dX5_number_62_g (n := 27) rfl
theorem dX5_number_114 : decode cX5_number 114 = .ok (.laload, 1) := nq_d dX5_number_62_g (n := 28) rfl
theorem dX5_number_115 : decode cX5_number 115 = .ok (.lreturn, 1) := nq_d dX5_number_62_g (n := 29) rfl
noncomputable def dX5_addWays_0_l : List (Nat × Instr × Nat) := [(0, .iconst 0, 1), (1, .istore_n 3, 1), (2, .iload_n 3, 1), (3, .aload_n 0, 1), (4, .getfield 19, 3), (7, .if_icmp .ge 63, 3), (10, .iload_n 1, 1), (11, .iload_n 3, 1), (12, .ishr, 1), (13, .iconst 1, 1), (14, .iand, 1), (15, .iconst 1, 1), (16, .if_icmp .ne 21, 3), (19, .aload_n 0, 1), (20, .getfield 9, 3), (23, .iload_n 3, 1), (24, .iaload, 1), (25, .iload_n 2, 1), (26, .ishr, 1), (27, .iconst 1, 1), (28, .iand, 1), (29, .iconst 1, 1), (30, .if_icmp .ne 7, 3), (33, .iconst 1, 1), (34, .goto 4, 3), (37, .iconst 0, 1), (38, .istore 4, 2), (40, .iload 4, 2), (42, .ifCond .eq 22, 3), (45, .aload_n 0, 1), (46, .getfield 15, 3), (49, .iload_n 1, 1), (50, .dup2, 1), (51, .laload, 1), (52, .aload_n 0, 1), (53, .getfield 15, 3), (56, .iload_n 1, 1), (57, .iconst 1, 1), (58, .iload_n 3, 1), (59, .ishl, 1)]
set_option maxRecDepth 100000 in
theorem dX5_addWays_0_g : dX5_addWays_0_l.all (fun x => decide (decode cX5_addWays x.1 = .ok x.2)) = true := by decide +kernel
theorem dX5_addWays_0 : decode cX5_addWays 0 = .ok (.iconst 0, 1) := nq_d dX5_addWays_0_g (n := 0) rfl
theorem dX5_addWays_1 : decode cX5_addWays 1 = .ok (.istore_n 3, 1) := nq_d dX5_addWays_0_g (n := 1) rfl
theorem dX5_addWays_2 : decode cX5_addWays 2 = .ok (.iload_n 3, 1) := nq_d dX5_addWays_0_g (n := 2) rfl
theorem dX5_addWays_3 : decode cX5_addWays 3 = .ok (.aload_n 0, 1) := nq_d dX5_addWays_0_g (n := 3) rfl
theorem dX5_addWays_4 : decode cX5_addWays 4 = .ok (.getfield 19, 3) := nq_d dX5_addWays_0_g (n := 4) rfl
theorem dX5_addWays_7 : decode cX5_addWays 7 = .ok (.if_icmp .ge 63, 3) := nq_d dX5_addWays_0_g (n := 5) rfl
theorem dX5_addWays_10 : decode cX5_addWays 10 = .ok (.iload_n 1, 1) := nq_d dX5_addWays_0_g (n := 6) rfl
theorem dX5_addWays_11 : decode cX5_addWays 11 = .ok (.iload_n 3, 1) := nq_d dX5_addWays_0_g (n := 7) rfl
theorem dX5_addWays_12 : decode cX5_addWays 12 = .ok (.ishr, 1) := nq_d dX5_addWays_0_g (n := 8) rfl
theorem dX5_addWays_13 : decode cX5_addWays 13 = .ok (.iconst 1, 1) := nq_d dX5_addWays_0_g (n := 9) rfl
theorem dX5_addWays_14 : decode cX5_addWays 14 = .ok (.iand, 1) := nq_d dX5_addWays_0_g (n := 10) rfl
theorem dX5_addWays_15 : decode cX5_addWays 15 = .ok (.iconst 1, 1) := nq_d dX5_addWays_0_g (n := 11) rfl
theorem dX5_addWays_16 : decode cX5_addWays 16 = .ok (.if_icmp .ne 21, 3) := nq_d dX5_addWays_0_g (n := 12) rfl
theorem dX5_addWays_19 : decode cX5_addWays 19 = .ok (.aload_n 0, 1) := nq_d dX5_addWays_0_g (n := 13) rfl
theorem dX5_addWays_20 : decode cX5_addWays 20 = .ok (.getfield 9, 3) := nq_d dX5_addWays_0_g (n := 14) rfl
theorem dX5_addWays_23 : decode cX5_addWays 23 = .ok (.iload_n 3, 1) := nq_d dX5_addWays_0_g (n := 15) rfl
theorem dX5_addWays_24 : decode cX5_addWays 24 = .ok (.iaload, 1) := nq_d dX5_addWays_0_g (n := 16) rfl
theorem dX5_addWays_25 : decode cX5_addWays 25 = .ok (.iload_n 2, 1) := nq_d dX5_addWays_0_g (n := 17) rfl
theorem dX5_addWays_26 : decode cX5_addWays 26 = .ok (.ishr, 1) := nq_d dX5_addWays_0_g (n := 18) rfl
theorem dX5_addWays_27 : decode cX5_addWays 27 = .ok (.iconst 1, 1) := nq_d dX5_addWays_0_g (n := 19) rfl
theorem dX5_addWays_28 : decode cX5_addWays 28 = .ok (.iand, 1) := nq_d dX5_addWays_0_g (n := 20) rfl
theorem dX5_addWays_29 : decode cX5_addWays 29 = .ok (.iconst 1, 1) := nq_d dX5_addWays_0_g (n := 21) rfl
theorem dX5_addWays_30 : decode cX5_addWays 30 = .ok (.if_icmp .ne 7, 3) := nq_d dX5_addWays_0_g (n := 22) rfl
theorem dX5_addWays_33 : decode cX5_addWays 33 = .ok (.iconst 1, 1) := nq_d dX5_addWays_0_g (n := 23) rfl
theorem dX5_addWays_34 : decode cX5_addWays 34 = .ok (.goto 4, 3) := nq_d dX5_addWays_0_g (n := 24) rfl
theorem dX5_addWays_37 : decode cX5_addWays 37 = .ok (.iconst 0, 1) := nq_d dX5_addWays_0_g (n := 25) rfl
theorem dX5_addWays_38 : decode cX5_addWays 38 = .ok (.istore 4, 2) := nq_d dX5_addWays_0_g (n := 26) rfl
theorem dX5_addWays_40 : decode cX5_addWays 40 = .ok (.iload 4, 2) := nq_d dX5_addWays_0_g (n := 27) rfl
theorem dX5_addWays_42 : decode cX5_addWays 42 = .ok (.ifCond .eq 22, 3) := nq_d dX5_addWays_0_g (n := 28) rfl
theorem dX5_addWays_45 : decode cX5_addWays 45 = .ok (.aload_n 0, 1) := nq_d dX5_addWays_0_g (n := 29) rfl
theorem dX5_addWays_46 : decode cX5_addWays 46 = .ok (.getfield 15, 3) := nq_d dX5_addWays_0_g (n := 30) rfl
theorem dX5_addWays_49 : decode cX5_addWays 49 = .ok (.iload_n 1, 1) := nq_d dX5_addWays_0_g (n := 31) rfl
theorem dX5_addWays_50 : decode cX5_addWays 50 = .ok (.dup2, 1) := nq_d dX5_addWays_0_g (n := 32) rfl
theorem dX5_addWays_51 : decode cX5_addWays 51 = .ok (.laload, 1) := nq_d dX5_addWays_0_g (n := 33) rfl
theorem dX5_addWays_52 : decode cX5_addWays 52 = .ok (.aload_n 0, 1) := nq_d dX5_addWays_0_g (n := 34) rfl
theorem dX5_addWays_53 : decode cX5_addWays 53 = .ok (.getfield 15, 3) := nq_d dX5_addWays_0_g (n := 35) rfl
theorem dX5_addWays_56 : decode cX5_addWays 56 = .ok (.iload_n 1, 1) := nq_d dX5_addWays_0_g (n := 36) rfl
theorem dX5_addWays_57 : decode cX5_addWays 57 = .ok (.iconst 1, 1) := nq_d dX5_addWays_0_g (n := 37) rfl
theorem dX5_addWays_58 : decode cX5_addWays 58 = .ok (.iload_n 3, 1) := nq_d dX5_addWays_0_g (n := 38) rfl
theorem dX5_addWays_59 : decode cX5_addWays 59 = .ok (.ishl, 1) := nq_d dX5_addWays_0_g (n := 39) rfl
noncomputable def dX5_addWays_60_l : List (Nat × Instr × Nat) := [(60, .ixor, 1), (61, .laload, 1), (62, .ladd, 1), (63, .lastore, 1), (64, .iinc 3 1, 3), (67, .goto (-65), 3), (70, .return_, 1)]
set_option maxRecDepth 100000 in
theorem dX5_addWays_60_g : dX5_addWays_60_l.all (fun x => decide (decode cX5_addWays x.1 = .ok x.2)) = true := by decide +kernel
theorem dX5_addWays_60 : decode cX5_addWays 60 = .ok (.ixor, 1) := nq_d dX5_addWays_60_g (n := 0) rfl
theorem dX5_addWays_61 : decode cX5_addWays 61 = .ok (.laload, 1) := nq_d dX5_addWays_60_g (n := 1) rfl
theorem dX5_addWays_62 : decode cX5_addWays 62 = .ok (.ladd, 1) := nq_d dX5_addWays_60_g (n := 2) rfl
theorem dX5_addWays_63 : decode cX5_addWays 63 = .ok (.lastore, 1) := nq_d dX5_addWays_60_g (n := 3) rfl
theorem dX5_addWays_64 : decode cX5_addWays 64 = .ok (.iinc 3 1, 3) := nq_d dX5_addWays_60_g (n := 4) rfl
theorem dX5_addWays_67 : decode cX5_addWays 67 = .ok (.goto (-65), 3) := nq_d dX5_addWays_60_g (n := 5) rfl
theorem dX5_addWays_70 : decode cX5_addWays 70 = .ok (.return_, 1) := nq_d dX5_addWays_60_g (n := 6) rfl
set_option maxRecDepth 100000 in
theorem ggX5_onlyThingOf_X10_within : GoodIn wsX5_onlyThingOf wsX10_within := goodIn_sub (sub_c (nq_m (n := 5) rfl) sub_n) (by decide +kernel)
set_option maxRecDepth 100000 in
theorem gX5_onlyThingOf_X10_within_n42 : GoodIn wsX5_onlyThingOf (wsX10_within) := ggX5_onlyThingOf_X10_within
set_option maxRecDepth 100000 in
theorem ggX5_onlyThingOf_X5_number : GoodIn wsX5_onlyThingOf wsX5_number := goodIn_sub (sub_c (nq_m (n := 10) rfl) (sub_c (nq_m (n := 1) rfl) (sub_c (nq_m (n := 2) rfl) (sub_c (nq_m (n := 11) rfl) (sub_c (nq_m (n := 12) rfl) (sub_c (nq_m (n := 13) rfl) (sub_c (nq_m (n := 14) rfl) (sub_c (nq_m (n := 9) rfl) (sub_c (nq_m (n := 15) rfl) (sub_c (nq_m (n := 16) rfl) (sub_c (nq_m (n := 17) rfl) (sub_c (nq_m (n := 18) rfl) sub_n)))))))))))) (by decide +kernel)
set_option maxRecDepth 100000 in
theorem gX5_onlyThingOf_X5_number : GoodIn wsX5_onlyThingOf (wsV RX5 46 RX5 yX5_number wsX5_number) := goodIn_app (goodIn_sub (sub_c (nq_m (n := 6) rfl) (sub_c (nq_m (n := 7) rfl) (sub_c (nq_m (n := 8) rfl) (sub_c (nq_m (n := 9) rfl) sub_n)))) (by decide +kernel)) ggX5_onlyThingOf_X5_number
noncomputable def dX5_onlyThingOf_0_l : List (Nat × Instr × Nat) := [(0, .iload_n 1, 1), (1, .iconst 0, 1), (2, .aload_n 0, 1), (3, .getfield 19, 3), (6, .iconst 1, 1), (7, .isub, 1), (8, .invokestatic 42, 3), (11, .ifCond .ne 5, 3), (14, .iconst (-1), 1), (15, .ireturn, 1), (16, .aload_n 0, 1), (17, .invokevirtual 46, 3), (20, .lconst 0, 1), (21, .lcmp, 1), (22, .ifCond .ne 5, 3), (25, .iconst (-1), 1), (26, .ireturn, 1), (27, .aload_n 0, 1), (28, .getfield 9, 3), (31, .iload_n 1, 1), (32, .iaload, 1), (33, .istore_n 2, 1), (34, .iconst (-1), 1), (35, .istore_n 3, 1), (36, .iconst 0, 1), (37, .istore 4, 2), (39, .iload 4, 2), (41, .bipush 16, 2), (43, .if_icmp .ge 53, 3), (46, .iload_n 2, 1), (47, .iload 4, 2), (49, .ishr, 1), (50, .iconst 1, 1), (51, .iand, 1), (52, .ifCond .ne 6, 3), (55, .goto 35, 3), (58, .aload_n 0, 1), (59, .getfield 9, 3), (62, .iload_n 1, 1), (63, .iconst 1, 1)]
set_option maxRecDepth 100000 in
theorem dX5_onlyThingOf_0_g : dX5_onlyThingOf_0_l.all (fun x => decide (decode cX5_onlyThingOf x.1 = .ok x.2)) = true := by decide +kernel
theorem dX5_onlyThingOf_0 : decode cX5_onlyThingOf 0 = .ok (.iload_n 1, 1) := nq_d dX5_onlyThingOf_0_g (n := 0) rfl
theorem dX5_onlyThingOf_1 : decode cX5_onlyThingOf 1 = .ok (.iconst 0, 1) := nq_d dX5_onlyThingOf_0_g (n := 1) rfl
theorem dX5_onlyThingOf_2 : decode cX5_onlyThingOf 2 = .ok (.aload_n 0, 1) := nq_d dX5_onlyThingOf_0_g (n := 2) rfl
theorem dX5_onlyThingOf_3 : decode cX5_onlyThingOf 3 = .ok (.getfield 19, 3) := nq_d dX5_onlyThingOf_0_g (n := 3) rfl
theorem dX5_onlyThingOf_6 : decode cX5_onlyThingOf 6 = .ok (.iconst 1, 1) := nq_d dX5_onlyThingOf_0_g (n := 4) rfl
theorem dX5_onlyThingOf_7 : decode cX5_onlyThingOf 7 = .ok (.isub, 1) := nq_d dX5_onlyThingOf_0_g (n := 5) rfl
theorem dX5_onlyThingOf_8 : decode cX5_onlyThingOf 8 = .ok (.invokestatic 42, 3) := nq_d dX5_onlyThingOf_0_g (n := 6) rfl
theorem dX5_onlyThingOf_11 : decode cX5_onlyThingOf 11 = .ok (.ifCond .ne 5, 3) := nq_d dX5_onlyThingOf_0_g (n := 7) rfl
theorem dX5_onlyThingOf_14 : decode cX5_onlyThingOf 14 = .ok (.iconst (-1), 1) := nq_d dX5_onlyThingOf_0_g (n := 8) rfl
theorem dX5_onlyThingOf_15 : decode cX5_onlyThingOf 15 = .ok (.ireturn, 1) := nq_d dX5_onlyThingOf_0_g (n := 9) rfl
theorem dX5_onlyThingOf_16 : decode cX5_onlyThingOf 16 = .ok (.aload_n 0, 1) := nq_d dX5_onlyThingOf_0_g (n := 10) rfl
theorem dX5_onlyThingOf_17 : decode cX5_onlyThingOf 17 = .ok (.invokevirtual 46, 3) := nq_d dX5_onlyThingOf_0_g (n := 11) rfl
theorem dX5_onlyThingOf_20 : decode cX5_onlyThingOf 20 = .ok (.lconst 0, 1) := nq_d dX5_onlyThingOf_0_g (n := 12) rfl
theorem dX5_onlyThingOf_21 : decode cX5_onlyThingOf 21 = .ok (.lcmp, 1) := nq_d dX5_onlyThingOf_0_g (n := 13) rfl
theorem dX5_onlyThingOf_22 : decode cX5_onlyThingOf 22 = .ok (.ifCond .ne 5, 3) := nq_d dX5_onlyThingOf_0_g (n := 14) rfl
theorem dX5_onlyThingOf_25 : decode cX5_onlyThingOf 25 = .ok (.iconst (-1), 1) := nq_d dX5_onlyThingOf_0_g (n := 15) rfl
theorem dX5_onlyThingOf_26 : decode cX5_onlyThingOf 26 = .ok (.ireturn, 1) := nq_d dX5_onlyThingOf_0_g (n := 16) rfl
theorem dX5_onlyThingOf_27 : decode cX5_onlyThingOf 27 = .ok (.aload_n 0, 1) := nq_d dX5_onlyThingOf_0_g (n := 17) rfl
theorem dX5_onlyThingOf_28 : decode cX5_onlyThingOf 28 = .ok (.getfield 9, 3) := nq_d dX5_onlyThingOf_0_g (n := 18) rfl
theorem dX5_onlyThingOf_31 : decode cX5_onlyThingOf 31 = .ok (.iload_n 1, 1) := nq_d dX5_onlyThingOf_0_g (n := 19) rfl
theorem dX5_onlyThingOf_32 : decode cX5_onlyThingOf 32 = .ok (.iaload, 1) := nq_d dX5_onlyThingOf_0_g (n := 20) rfl
theorem dX5_onlyThingOf_33 : decode cX5_onlyThingOf 33 = .ok (.istore_n 2, 1) := nq_d dX5_onlyThingOf_0_g (n := 21) rfl
theorem dX5_onlyThingOf_34 : decode cX5_onlyThingOf 34 = .ok (.iconst (-1), 1) := nq_d dX5_onlyThingOf_0_g (n := 22) rfl
theorem dX5_onlyThingOf_35 : decode cX5_onlyThingOf 35 = .ok (.istore_n 3, 1) := nq_d dX5_onlyThingOf_0_g (n := 23) rfl
theorem dX5_onlyThingOf_36 : decode cX5_onlyThingOf 36 = .ok (.iconst 0, 1) := nq_d dX5_onlyThingOf_0_g (n := 24) rfl
theorem dX5_onlyThingOf_37 : decode cX5_onlyThingOf 37 = .ok (.istore 4, 2) := nq_d dX5_onlyThingOf_0_g (n := 25) rfl
theorem dX5_onlyThingOf_39 : decode cX5_onlyThingOf 39 = .ok (.iload 4, 2) := nq_d dX5_onlyThingOf_0_g (n := 26) rfl
theorem dX5_onlyThingOf_41 : decode cX5_onlyThingOf 41 = .ok (.bipush 16, 2) := nq_d dX5_onlyThingOf_0_g (n := 27) rfl
theorem dX5_onlyThingOf_43 : decode cX5_onlyThingOf 43 = .ok (.if_icmp .ge 53, 3) := nq_d dX5_onlyThingOf_0_g (n := 28) rfl
theorem dX5_onlyThingOf_46 : decode cX5_onlyThingOf 46 = .ok (.iload_n 2, 1) := nq_d dX5_onlyThingOf_0_g (n := 29) rfl
theorem dX5_onlyThingOf_47 : decode cX5_onlyThingOf 47 = .ok (.iload 4, 2) := nq_d dX5_onlyThingOf_0_g (n := 30) rfl
theorem dX5_onlyThingOf_49 : decode cX5_onlyThingOf 49 = .ok (.ishr, 1) := nq_d dX5_onlyThingOf_0_g (n := 31) rfl
theorem dX5_onlyThingOf_50 : decode cX5_onlyThingOf 50 = .ok (.iconst 1, 1) := nq_d dX5_onlyThingOf_0_g (n := 32) rfl
theorem dX5_onlyThingOf_51 : decode cX5_onlyThingOf 51 = .ok (.iand, 1) := nq_d dX5_onlyThingOf_0_g (n := 33) rfl
theorem dX5_onlyThingOf_52 : decode cX5_onlyThingOf 52 = .ok (.ifCond .ne 6, 3) := nq_d dX5_onlyThingOf_0_g (n := 34) rfl
theorem dX5_onlyThingOf_55 : decode cX5_onlyThingOf 55 = .ok (.goto 35, 3) := nq_d dX5_onlyThingOf_0_g (n := 35) rfl
theorem dX5_onlyThingOf_58 : decode cX5_onlyThingOf 58 = .ok (.aload_n 0, 1) := nq_d dX5_onlyThingOf_0_g (n := 36) rfl
theorem dX5_onlyThingOf_59 : decode cX5_onlyThingOf 59 = .ok (.getfield 9, 3) := nq_d dX5_onlyThingOf_0_g (n := 37) rfl
theorem dX5_onlyThingOf_62 : decode cX5_onlyThingOf 62 = .ok (.iload_n 1, 1) := nq_d dX5_onlyThingOf_0_g (n := 38) rfl
theorem dX5_onlyThingOf_63 : decode cX5_onlyThingOf 63 = .ok (.iconst 1, 1) := nq_d dX5_onlyThingOf_0_g (n := 39) rfl
noncomputable def dX5_onlyThingOf_64_l : List (Nat × Instr × Nat) := [(64, .iload 4, 2), (66, .ishl, 1), (67, .iastore, 1), (68, .aload_n 0, 1), (69, .invokevirtual 46, 3), (72, .lconst 0, 1), (73, .lcmp, 1), (74, .ifCond .ne 6, 3), (77, .goto 13, 3), (80, .iload_n 3, 1), (81, .iconst (-1), 1), (82, .if_icmp .eq 5, 3), (85, .iconst (-1), 1), (86, .ireturn, 1), (87, .iload 4, 2), (89, .istore_n 3, 1), (90, .iinc 4 1, 3), (93, .goto (-54), 3), (96, .iload_n 3, 1), (97, .ireturn, 1)]
set_option maxRecDepth 100000 in
theorem dX5_onlyThingOf_64_g : dX5_onlyThingOf_64_l.all (fun x => decide (decode cX5_onlyThingOf x.1 = .ok x.2)) = true := by decide +kernel
theorem dX5_onlyThingOf_64 : decode cX5_onlyThingOf 64 = .ok (.iload 4, 2) := nq_d dX5_onlyThingOf_64_g (n := 0) rfl
theorem dX5_onlyThingOf_66 : decode cX5_onlyThingOf 66 = .ok (.ishl, 1) := nq_d dX5_onlyThingOf_64_g (n := 1) rfl
theorem dX5_onlyThingOf_67 : decode cX5_onlyThingOf 67 = .ok (.iastore, 1) := nq_d dX5_onlyThingOf_64_g (n := 2) rfl
theorem dX5_onlyThingOf_68 : decode cX5_onlyThingOf 68 = .ok (.aload_n 0, 1) := nq_d dX5_onlyThingOf_64_g (n := 3) rfl
theorem dX5_onlyThingOf_69 : decode cX5_onlyThingOf 69 = .ok (.invokevirtual 46, 3) := nq_d dX5_onlyThingOf_64_g (n := 4) rfl
theorem dX5_onlyThingOf_72 : decode cX5_onlyThingOf 72 = .ok (.lconst 0, 1) := nq_d dX5_onlyThingOf_64_g (n := 5) rfl
theorem dX5_onlyThingOf_73 : decode cX5_onlyThingOf 73 = .ok (.lcmp, 1) := nq_d dX5_onlyThingOf_64_g (n := 6) rfl
theorem dX5_onlyThingOf_74 : decode cX5_onlyThingOf 74 = .ok (.ifCond .ne 6, 3) := nq_d dX5_onlyThingOf_64_g (n := 7) rfl
theorem dX5_onlyThingOf_77 : decode cX5_onlyThingOf 77 = .ok (.goto 13, 3) := nq_d dX5_onlyThingOf_64_g (n := 8) rfl
theorem dX5_onlyThingOf_80 : decode cX5_onlyThingOf 80 = .ok (.iload_n 3, 1) := nq_d dX5_onlyThingOf_64_g (n := 9) rfl
theorem dX5_onlyThingOf_81 : decode cX5_onlyThingOf 81 = .ok (.iconst (-1), 1) := nq_d dX5_onlyThingOf_64_g (n := 10) rfl
theorem dX5_onlyThingOf_82 : decode cX5_onlyThingOf 82 = .ok (.if_icmp .eq 5, 3) := nq_d dX5_onlyThingOf_64_g (n := 11) rfl
theorem dX5_onlyThingOf_85 : decode cX5_onlyThingOf 85 = .ok (.iconst (-1), 1) := nq_d dX5_onlyThingOf_64_g (n := 12) rfl
theorem dX5_onlyThingOf_86 : decode cX5_onlyThingOf 86 = .ok (.ireturn, 1) := nq_d dX5_onlyThingOf_64_g (n := 13) rfl
theorem dX5_onlyThingOf_87 : decode cX5_onlyThingOf 87 = .ok (.iload 4, 2) := nq_d dX5_onlyThingOf_64_g (n := 14) rfl
theorem dX5_onlyThingOf_89 : decode cX5_onlyThingOf 89 = .ok (.istore_n 3, 1) := nq_d dX5_onlyThingOf_64_g (n := 15) rfl
theorem dX5_onlyThingOf_90 : decode cX5_onlyThingOf 90 = .ok (.iinc 4 1, 3) := nq_d dX5_onlyThingOf_64_g (n := 16) rfl
theorem dX5_onlyThingOf_93 : decode cX5_onlyThingOf 93 = .ok (.goto (-54), 3) := nq_d dX5_onlyThingOf_64_g (n := 17) rfl
theorem dX5_onlyThingOf_96 : decode cX5_onlyThingOf 96 = .ok (.iload_n 3, 1) := nq_d dX5_onlyThingOf_64_g (n := 18) rfl
theorem dX5_onlyThingOf_97 : decode cX5_onlyThingOf 97 = .ok (.ireturn, 1) := nq_d dX5_onlyThingOf_64_g (n := 19) rfl
noncomputable def dX6_init_0_l : List (Nat × Instr × Nat) := [(0, .aload_n 0, 1), (1, .invokespecial 3, 3), (4, .aload_n 0, 1), (5, .iconst 0, 1), (6, .putfield 9, 3), (9, .aload_n 0, 1), (10, .bipush 24, 2), (12, .newarray .int, 2), (14, .putfield 15, 3), (17, .return_, 1)]
set_option maxRecDepth 100000 in
theorem dX6_init_0_g : dX6_init_0_l.all (fun x => decide (decode cX6_init x.1 = .ok x.2)) = true := by decide +kernel
theorem dX6_init_0 : decode cX6_init 0 = .ok (.aload_n 0, 1) := nq_d dX6_init_0_g (n := 0) rfl
theorem dX6_init_1 : decode cX6_init 1 = .ok (.invokespecial 3, 3) := nq_d dX6_init_0_g (n := 1) rfl
theorem dX6_init_4 : decode cX6_init 4 = .ok (.aload_n 0, 1) := nq_d dX6_init_0_g (n := 2) rfl
theorem dX6_init_5 : decode cX6_init 5 = .ok (.iconst 0, 1) := nq_d dX6_init_0_g (n := 3) rfl
theorem dX6_init_6 : decode cX6_init 6 = .ok (.putfield 9, 3) := nq_d dX6_init_0_g (n := 4) rfl
theorem dX6_init_9 : decode cX6_init 9 = .ok (.aload_n 0, 1) := nq_d dX6_init_0_g (n := 5) rfl
theorem dX6_init_10 : decode cX6_init 10 = .ok (.bipush 24, 2) := nq_d dX6_init_0_g (n := 6) rfl
theorem dX6_init_12 : decode cX6_init 12 = .ok (.newarray .int, 2) := nq_d dX6_init_0_g (n := 7) rfl
theorem dX6_init_14 : decode cX6_init 14 = .ok (.putfield 15, 3) := nq_d dX6_init_0_g (n := 8) rfl
theorem dX6_init_17 : decode cX6_init 17 = .ok (.return_, 1) := nq_d dX6_init_0_g (n := 9) rfl
noncomputable def dX6_copyFrom_0_l : List (Nat × Instr × Nat) := [(0, .aload_n 0, 1), (1, .aload_n 1, 1), (2, .getfield 9, 3), (5, .putfield 9, 3), (8, .aload_n 1, 1), (9, .getfield 15, 3), (12, .iconst 0, 1), (13, .aload_n 0, 1), (14, .getfield 15, 3), (17, .iconst 0, 1), (18, .aload_n 0, 1), (19, .getfield 15, 3), (22, .arraylength, 1), (23, .invokestatic 19, 3), (26, .return_, 1)]
set_option maxRecDepth 100000 in
theorem dX6_copyFrom_0_g : dX6_copyFrom_0_l.all (fun x => decide (decode cX6_copyFrom x.1 = .ok x.2)) = true := by decide +kernel
theorem dX6_copyFrom_0 : decode cX6_copyFrom 0 = .ok (.aload_n 0, 1) := nq_d dX6_copyFrom_0_g (n := 0) rfl
theorem dX6_copyFrom_1 : decode cX6_copyFrom 1 = .ok (.aload_n 1, 1) := nq_d dX6_copyFrom_0_g (n := 1) rfl
theorem dX6_copyFrom_2 : decode cX6_copyFrom 2 = .ok (.getfield 9, 3) := nq_d dX6_copyFrom_0_g (n := 2) rfl
theorem dX6_copyFrom_5 : decode cX6_copyFrom 5 = .ok (.putfield 9, 3) := nq_d dX6_copyFrom_0_g (n := 3) rfl
theorem dX6_copyFrom_8 : decode cX6_copyFrom 8 = .ok (.aload_n 1, 1) := nq_d dX6_copyFrom_0_g (n := 4) rfl
theorem dX6_copyFrom_9 : decode cX6_copyFrom 9 = .ok (.getfield 15, 3) := nq_d dX6_copyFrom_0_g (n := 5) rfl
theorem dX6_copyFrom_12 : decode cX6_copyFrom 12 = .ok (.iconst 0, 1) := nq_d dX6_copyFrom_0_g (n := 6) rfl
theorem dX6_copyFrom_13 : decode cX6_copyFrom 13 = .ok (.aload_n 0, 1) := nq_d dX6_copyFrom_0_g (n := 7) rfl
theorem dX6_copyFrom_14 : decode cX6_copyFrom 14 = .ok (.getfield 15, 3) := nq_d dX6_copyFrom_0_g (n := 8) rfl
theorem dX6_copyFrom_17 : decode cX6_copyFrom 17 = .ok (.iconst 0, 1) := nq_d dX6_copyFrom_0_g (n := 9) rfl
theorem dX6_copyFrom_18 : decode cX6_copyFrom 18 = .ok (.aload_n 0, 1) := nq_d dX6_copyFrom_0_g (n := 10) rfl
theorem dX6_copyFrom_19 : decode cX6_copyFrom 19 = .ok (.getfield 15, 3) := nq_d dX6_copyFrom_0_g (n := 11) rfl
theorem dX6_copyFrom_22 : decode cX6_copyFrom 22 = .ok (.arraylength, 1) := nq_d dX6_copyFrom_0_g (n := 12) rfl
theorem dX6_copyFrom_23 : decode cX6_copyFrom 23 = .ok (.invokestatic 19, 3) := nq_d dX6_copyFrom_0_g (n := 13) rfl
theorem dX6_copyFrom_26 : decode cX6_copyFrom 26 = .ok (.return_, 1) := nq_d dX6_copyFrom_0_g (n := 14) rfl
set_option maxRecDepth 100000 in
theorem ggX6_add_X10_within : GoodIn wsX6_add wsX10_within := goodIn_sub (sub_c (nq_m (n := 5) rfl) sub_n) (by decide +kernel)
set_option maxRecDepth 100000 in
theorem gX6_add_X10_within_n25 : GoodIn wsX6_add (wsX10_within) := ggX6_add_X10_within
noncomputable def dX6_add_0_l : List (Nat × Instr × Nat) := [(0, .iload_n 1, 1), (1, .iconst 0, 1), (2, .iconst 3, 1), (3, .invokestatic 25, 3), (6, .ifCond .eq 12, 3), (9, .iload_n 2, 1), (10, .iconst 0, 1), (11, .iconst 1, 1), (12, .invokestatic 25, 3), (15, .ifCond .ne 7, 3), (18, .sipush (-1002), 3), (21, .ireturn, 1), (22, .iload_n 1, 1), (23, .iconst 2, 1), (24, .imul, 1), (25, .iload_n 2, 1), (26, .iadd, 1), (27, .iconst 3, 1), (28, .imul, 1), (29, .istore 6, 2), (31, .aload_n 0, 1), (32, .getfield 15, 3), (35, .iload 6, 2), (37, .dup2, 1), (38, .iaload, 1), (39, .iload_n 3, 1), (40, .iadd, 1), (41, .iastore, 1), (42, .aload_n 0, 1), (43, .getfield 15, 3), (46, .iload 6, 2), (48, .iconst 1, 1), (49, .iadd, 1), (50, .dup2, 1), (51, .iaload, 1), (52, .iload 4, 2), (54, .iadd, 1), (55, .iastore, 1), (56, .aload_n 0, 1), (57, .getfield 15, 3)]
set_option maxRecDepth 100000 in
theorem dX6_add_0_g : dX6_add_0_l.all (fun x => decide (decode cX6_add x.1 = .ok x.2)) = true := by decide +kernel
theorem dX6_add_0 : decode cX6_add 0 = .ok (.iload_n 1, 1) := nq_d dX6_add_0_g (n := 0) rfl
theorem dX6_add_1 : decode cX6_add 1 = .ok (.iconst 0, 1) := nq_d dX6_add_0_g (n := 1) rfl
theorem dX6_add_2 : decode cX6_add 2 = .ok (.iconst 3, 1) := nq_d dX6_add_0_g (n := 2) rfl
theorem dX6_add_3 : decode cX6_add 3 = .ok (.invokestatic 25, 3) := nq_d dX6_add_0_g (n := 3) rfl
theorem dX6_add_6 : decode cX6_add 6 = .ok (.ifCond .eq 12, 3) := nq_d dX6_add_0_g (n := 4) rfl
theorem dX6_add_9 : decode cX6_add 9 = .ok (.iload_n 2, 1) := nq_d dX6_add_0_g (n := 5) rfl
theorem dX6_add_10 : decode cX6_add 10 = .ok (.iconst 0, 1) := nq_d dX6_add_0_g (n := 6) rfl
theorem dX6_add_11 : decode cX6_add 11 = .ok (.iconst 1, 1) := nq_d dX6_add_0_g (n := 7) rfl
theorem dX6_add_12 : decode cX6_add 12 = .ok (.invokestatic 25, 3) := nq_d dX6_add_0_g (n := 8) rfl
theorem dX6_add_15 : decode cX6_add 15 = .ok (.ifCond .ne 7, 3) := nq_d dX6_add_0_g (n := 9) rfl
theorem dX6_add_18 : decode cX6_add 18 = .ok (.sipush (-1002), 3) := nq_d dX6_add_0_g (n := 10) rfl
theorem dX6_add_21 : decode cX6_add 21 = .ok (.ireturn, 1) := nq_d dX6_add_0_g (n := 11) rfl
theorem dX6_add_22 : decode cX6_add 22 = .ok (.iload_n 1, 1) := nq_d dX6_add_0_g (n := 12) rfl
theorem dX6_add_23 : decode cX6_add 23 = .ok (.iconst 2, 1) := nq_d dX6_add_0_g (n := 13) rfl
theorem dX6_add_24 : decode cX6_add 24 = .ok (.imul, 1) := nq_d dX6_add_0_g (n := 14) rfl
theorem dX6_add_25 : decode cX6_add 25 = .ok (.iload_n 2, 1) := nq_d dX6_add_0_g (n := 15) rfl
theorem dX6_add_26 : decode cX6_add 26 = .ok (.iadd, 1) := nq_d dX6_add_0_g (n := 16) rfl
theorem dX6_add_27 : decode cX6_add 27 = .ok (.iconst 3, 1) := nq_d dX6_add_0_g (n := 17) rfl
theorem dX6_add_28 : decode cX6_add 28 = .ok (.imul, 1) := nq_d dX6_add_0_g (n := 18) rfl
theorem dX6_add_29 : decode cX6_add 29 = .ok (.istore 6, 2) := nq_d dX6_add_0_g (n := 19) rfl
theorem dX6_add_31 : decode cX6_add 31 = .ok (.aload_n 0, 1) := nq_d dX6_add_0_g (n := 20) rfl
theorem dX6_add_32 : decode cX6_add 32 = .ok (.getfield 15, 3) := nq_d dX6_add_0_g (n := 21) rfl
theorem dX6_add_35 : decode cX6_add 35 = .ok (.iload 6, 2) := nq_d dX6_add_0_g (n := 22) rfl
theorem dX6_add_37 : decode cX6_add 37 = .ok (.dup2, 1) := nq_d dX6_add_0_g (n := 23) rfl
theorem dX6_add_38 : decode cX6_add 38 = .ok (.iaload, 1) := nq_d dX6_add_0_g (n := 24) rfl
theorem dX6_add_39 : decode cX6_add 39 = .ok (.iload_n 3, 1) := nq_d dX6_add_0_g (n := 25) rfl
theorem dX6_add_40 : decode cX6_add 40 = .ok (.iadd, 1) := nq_d dX6_add_0_g (n := 26) rfl
theorem dX6_add_41 : decode cX6_add 41 = .ok (.iastore, 1) := nq_d dX6_add_0_g (n := 27) rfl
theorem dX6_add_42 : decode cX6_add 42 = .ok (.aload_n 0, 1) := nq_d dX6_add_0_g (n := 28) rfl
theorem dX6_add_43 : decode cX6_add 43 = .ok (.getfield 15, 3) := nq_d dX6_add_0_g (n := 29) rfl
theorem dX6_add_46 : decode cX6_add 46 = .ok (.iload 6, 2) := nq_d dX6_add_0_g (n := 30) rfl
theorem dX6_add_48 : decode cX6_add 48 = .ok (.iconst 1, 1) := nq_d dX6_add_0_g (n := 31) rfl
theorem dX6_add_49 : decode cX6_add 49 = .ok (.iadd, 1) := nq_d dX6_add_0_g (n := 32) rfl
theorem dX6_add_50 : decode cX6_add 50 = .ok (.dup2, 1) := nq_d dX6_add_0_g (n := 33) rfl
theorem dX6_add_51 : decode cX6_add 51 = .ok (.iaload, 1) := nq_d dX6_add_0_g (n := 34) rfl
theorem dX6_add_52 : decode cX6_add 52 = .ok (.iload 4, 2) := nq_d dX6_add_0_g (n := 35) rfl
theorem dX6_add_54 : decode cX6_add 54 = .ok (.iadd, 1) := nq_d dX6_add_0_g (n := 36) rfl
theorem dX6_add_55 : decode cX6_add 55 = .ok (.iastore, 1) := nq_d dX6_add_0_g (n := 37) rfl
theorem dX6_add_56 : decode cX6_add 56 = .ok (.aload_n 0, 1) := nq_d dX6_add_0_g (n := 38) rfl
theorem dX6_add_57 : decode cX6_add 57 = .ok (.getfield 15, 3) := nq_d dX6_add_0_g (n := 39) rfl
noncomputable def dX6_add_60_l : List (Nat × Instr × Nat) := [(60, .iload 6, 2), (62, .iconst 2, 1), (63, .iadd, 1), (64, .dup2, 1), (65, .iaload, 1), (66, .iload 5, 2), (68, .iadd, 1), (69, .iastore, 1), (70, .aload_n 0, 1), (71, .dup, 1), (72, .getfield 9, 3), (75, .iconst 1, 1), (76, .iadd, 1), (77, .putfield 9, 3), (80, .aload_n 0, 1), (81, .getfield 9, 3), (84, .ireturn, 1)]
set_option maxRecDepth 100000 in
theorem dX6_add_60_g : dX6_add_60_l.all (fun x => decide (decode cX6_add x.1 = .ok x.2)) = true := by decide +kernel
theorem dX6_add_60 : decode cX6_add 60 = .ok (.iload 6, 2) := nq_d dX6_add_60_g (n := 0) rfl
theorem dX6_add_62 : decode cX6_add 62 = .ok (.iconst 2, 1) := nq_d dX6_add_60_g (n := 1) rfl
theorem dX6_add_63 : decode cX6_add 63 = .ok (.iadd, 1) := nq_d dX6_add_60_g (n := 2) rfl
theorem dX6_add_64 : decode cX6_add 64 = .ok (.dup2, 1) := nq_d dX6_add_60_g (n := 3) rfl
theorem dX6_add_65 : decode cX6_add 65 = .ok (.iaload, 1) := nq_d dX6_add_60_g (n := 4) rfl
theorem dX6_add_66 : decode cX6_add 66 = .ok (.iload 5, 2) := nq_d dX6_add_60_g (n := 5) rfl
theorem dX6_add_68 : decode cX6_add 68 = .ok (.iadd, 1) := nq_d dX6_add_60_g (n := 6) rfl
theorem dX6_add_69 : decode cX6_add 69 = .ok (.iastore, 1) := nq_d dX6_add_60_g (n := 7) rfl
theorem dX6_add_70 : decode cX6_add 70 = .ok (.aload_n 0, 1) := nq_d dX6_add_60_g (n := 8) rfl
theorem dX6_add_71 : decode cX6_add 71 = .ok (.dup, 1) := nq_d dX6_add_60_g (n := 9) rfl
theorem dX6_add_72 : decode cX6_add 72 = .ok (.getfield 9, 3) := nq_d dX6_add_60_g (n := 10) rfl
theorem dX6_add_75 : decode cX6_add 75 = .ok (.iconst 1, 1) := nq_d dX6_add_60_g (n := 11) rfl
theorem dX6_add_76 : decode cX6_add 76 = .ok (.iadd, 1) := nq_d dX6_add_60_g (n := 12) rfl
theorem dX6_add_77 : decode cX6_add 77 = .ok (.putfield 9, 3) := nq_d dX6_add_60_g (n := 13) rfl
theorem dX6_add_80 : decode cX6_add 80 = .ok (.aload_n 0, 1) := nq_d dX6_add_60_g (n := 14) rfl
theorem dX6_add_81 : decode cX6_add 81 = .ok (.getfield 9, 3) := nq_d dX6_add_60_g (n := 15) rfl
theorem dX6_add_84 : decode cX6_add 84 = .ok (.ireturn, 1) := nq_d dX6_add_60_g (n := 16) rfl
set_option maxRecDepth 100000 in
theorem ggX6_oddsOf_X10_within : GoodIn wsX6_oddsOf wsX10_within := goodIn_sub (sub_c (nq_m (n := 4) rfl) sub_n) (by decide +kernel)
set_option maxRecDepth 100000 in
theorem gX6_oddsOf_X10_within_n25 : GoodIn wsX6_oddsOf (wsX10_within) := ggX6_oddsOf_X10_within
noncomputable def dX6_oddsOf_0_l : List (Nat × Instr × Nat) := [(0, .iload_n 1, 1), (1, .iconst 0, 1), (2, .iconst 3, 1), (3, .invokestatic 25, 3), (6, .ifCond .eq 12, 3), (9, .iload_n 2, 1), (10, .iconst 0, 1), (11, .iconst 1, 1), (12, .invokestatic 25, 3), (15, .ifCond .ne 5, 3), (18, .iconst 0, 1), (19, .ireturn, 1), (20, .iload_n 1, 1), (21, .iconst 2, 1), (22, .imul, 1), (23, .iload_n 2, 1), (24, .iadd, 1), (25, .iconst 3, 1), (26, .imul, 1), (27, .istore 4, 2), (29, .aload_n 0, 1), (30, .getfield 15, 3), (33, .iload 4, 2), (35, .iaload, 1), (36, .aload_n 0, 1), (37, .getfield 15, 3), (40, .iload 4, 2), (42, .iconst 1, 1), (43, .iadd, 1), (44, .iaload, 1), (45, .iadd, 1), (46, .aload_n 0, 1), (47, .getfield 15, 3), (50, .iload 4, 2), (52, .iconst 2, 1), (53, .iadd, 1), (54, .iaload, 1), (55, .iadd, 1), (56, .iconst 3, 1), (57, .iadd, 1)]
set_option maxRecDepth 100000 in
theorem dX6_oddsOf_0_g : dX6_oddsOf_0_l.all (fun x => decide (decode cX6_oddsOf x.1 = .ok x.2)) = true := by decide +kernel
theorem dX6_oddsOf_0 : decode cX6_oddsOf 0 = .ok (.iload_n 1, 1) := nq_d dX6_oddsOf_0_g (n := 0) rfl
theorem dX6_oddsOf_1 : decode cX6_oddsOf 1 = .ok (.iconst 0, 1) := nq_d dX6_oddsOf_0_g (n := 1) rfl
theorem dX6_oddsOf_2 : decode cX6_oddsOf 2 = .ok (.iconst 3, 1) := nq_d dX6_oddsOf_0_g (n := 2) rfl
theorem dX6_oddsOf_3 : decode cX6_oddsOf 3 = .ok (.invokestatic 25, 3) := nq_d dX6_oddsOf_0_g (n := 3) rfl
theorem dX6_oddsOf_6 : decode cX6_oddsOf 6 = .ok (.ifCond .eq 12, 3) := nq_d dX6_oddsOf_0_g (n := 4) rfl
theorem dX6_oddsOf_9 : decode cX6_oddsOf 9 = .ok (.iload_n 2, 1) := nq_d dX6_oddsOf_0_g (n := 5) rfl
theorem dX6_oddsOf_10 : decode cX6_oddsOf 10 = .ok (.iconst 0, 1) := nq_d dX6_oddsOf_0_g (n := 6) rfl
theorem dX6_oddsOf_11 : decode cX6_oddsOf 11 = .ok (.iconst 1, 1) := nq_d dX6_oddsOf_0_g (n := 7) rfl
theorem dX6_oddsOf_12 : decode cX6_oddsOf 12 = .ok (.invokestatic 25, 3) := nq_d dX6_oddsOf_0_g (n := 8) rfl
theorem dX6_oddsOf_15 : decode cX6_oddsOf 15 = .ok (.ifCond .ne 5, 3) := nq_d dX6_oddsOf_0_g (n := 9) rfl
theorem dX6_oddsOf_18 : decode cX6_oddsOf 18 = .ok (.iconst 0, 1) := nq_d dX6_oddsOf_0_g (n := 10) rfl
theorem dX6_oddsOf_19 : decode cX6_oddsOf 19 = .ok (.ireturn, 1) := nq_d dX6_oddsOf_0_g (n := 11) rfl
theorem dX6_oddsOf_20 : decode cX6_oddsOf 20 = .ok (.iload_n 1, 1) := nq_d dX6_oddsOf_0_g (n := 12) rfl
theorem dX6_oddsOf_21 : decode cX6_oddsOf 21 = .ok (.iconst 2, 1) := nq_d dX6_oddsOf_0_g (n := 13) rfl
theorem dX6_oddsOf_22 : decode cX6_oddsOf 22 = .ok (.imul, 1) := nq_d dX6_oddsOf_0_g (n := 14) rfl
theorem dX6_oddsOf_23 : decode cX6_oddsOf 23 = .ok (.iload_n 2, 1) := nq_d dX6_oddsOf_0_g (n := 15) rfl
theorem dX6_oddsOf_24 : decode cX6_oddsOf 24 = .ok (.iadd, 1) := nq_d dX6_oddsOf_0_g (n := 16) rfl
theorem dX6_oddsOf_25 : decode cX6_oddsOf 25 = .ok (.iconst 3, 1) := nq_d dX6_oddsOf_0_g (n := 17) rfl
theorem dX6_oddsOf_26 : decode cX6_oddsOf 26 = .ok (.imul, 1) := nq_d dX6_oddsOf_0_g (n := 18) rfl
theorem dX6_oddsOf_27 : decode cX6_oddsOf 27 = .ok (.istore 4, 2) := nq_d dX6_oddsOf_0_g (n := 19) rfl
theorem dX6_oddsOf_29 : decode cX6_oddsOf 29 = .ok (.aload_n 0, 1) := nq_d dX6_oddsOf_0_g (n := 20) rfl
theorem dX6_oddsOf_30 : decode cX6_oddsOf 30 = .ok (.getfield 15, 3) := nq_d dX6_oddsOf_0_g (n := 21) rfl
theorem dX6_oddsOf_33 : decode cX6_oddsOf 33 = .ok (.iload 4, 2) := nq_d dX6_oddsOf_0_g (n := 22) rfl
theorem dX6_oddsOf_35 : decode cX6_oddsOf 35 = .ok (.iaload, 1) := nq_d dX6_oddsOf_0_g (n := 23) rfl
theorem dX6_oddsOf_36 : decode cX6_oddsOf 36 = .ok (.aload_n 0, 1) := nq_d dX6_oddsOf_0_g (n := 24) rfl
theorem dX6_oddsOf_37 : decode cX6_oddsOf 37 = .ok (.getfield 15, 3) := nq_d dX6_oddsOf_0_g (n := 25) rfl
theorem dX6_oddsOf_40 : decode cX6_oddsOf 40 = .ok (.iload 4, 2) := nq_d dX6_oddsOf_0_g (n := 26) rfl
theorem dX6_oddsOf_42 : decode cX6_oddsOf 42 = .ok (.iconst 1, 1) := nq_d dX6_oddsOf_0_g (n := 27) rfl
theorem dX6_oddsOf_43 : decode cX6_oddsOf 43 = .ok (.iadd, 1) := nq_d dX6_oddsOf_0_g (n := 28) rfl
theorem dX6_oddsOf_44 : decode cX6_oddsOf 44 = .ok (.iaload, 1) := nq_d dX6_oddsOf_0_g (n := 29) rfl
theorem dX6_oddsOf_45 : decode cX6_oddsOf 45 = .ok (.iadd, 1) := nq_d dX6_oddsOf_0_g (n := 30) rfl
theorem dX6_oddsOf_46 : decode cX6_oddsOf 46 = .ok (.aload_n 0, 1) := nq_d dX6_oddsOf_0_g (n := 31) rfl
theorem dX6_oddsOf_47 : decode cX6_oddsOf 47 = .ok (.getfield 15, 3) := nq_d dX6_oddsOf_0_g (n := 32) rfl
theorem dX6_oddsOf_50 : decode cX6_oddsOf 50 = .ok (.iload 4, 2) := nq_d dX6_oddsOf_0_g (n := 33) rfl
theorem dX6_oddsOf_52 : decode cX6_oddsOf 52 = .ok (.iconst 2, 1) := nq_d dX6_oddsOf_0_g (n := 34) rfl
theorem dX6_oddsOf_53 : decode cX6_oddsOf 53 = .ok (.iadd, 1) := nq_d dX6_oddsOf_0_g (n := 35) rfl
theorem dX6_oddsOf_54 : decode cX6_oddsOf 54 = .ok (.iaload, 1) := nq_d dX6_oddsOf_0_g (n := 36) rfl
theorem dX6_oddsOf_55 : decode cX6_oddsOf 55 = .ok (.iadd, 1) := nq_d dX6_oddsOf_0_g (n := 37) rfl
theorem dX6_oddsOf_56 : decode cX6_oddsOf 56 = .ok (.iconst 3, 1) := nq_d dX6_oddsOf_0_g (n := 38) rfl
theorem dX6_oddsOf_57 : decode cX6_oddsOf 57 = .ok (.iadd, 1) := nq_d dX6_oddsOf_0_g (n := 39) rfl
noncomputable def dX6_oddsOf_58_l : List (Nat × Instr × Nat) := [(58, .istore 5, 2), (60, .iload 5, 2), (62, .ifCond .gt 5, 3), (65, .iconst 0, 1), (66, .ireturn, 1), (67, .sipush 1000, 3), (70, .aload_n 0, 1), (71, .getfield 15, 3), (74, .iload 4, 2), (76, .iaload, 1), (77, .iconst 1, 1), (78, .iadd, 1), (79, .imul, 1), (80, .iload 5, 2), (82, .idiv, 1), (83, .istore 6, 2), (85, .sipush 1000, 3), (88, .aload_n 0, 1), (89, .getfield 15, 3), (92, .iload 4, 2), (94, .iconst 1, 1), (95, .iadd, 1), (96, .iaload, 1), (97, .iconst 1, 1), (98, .iadd, 1), (99, .imul, 1), (100, .iload 5, 2), (102, .idiv, 1), (103, .istore 7, 2), (105, .iload_n 3, 1), (106, .ifCond .ne 6, 3), (109, .iload 6, 2), (111, .ireturn, 1), (112, .iload_n 3, 1), (113, .iconst 1, 1), (114, .if_icmp .ne 8, 3), (117, .iload 7, 2), (119, .goto 12, 3), (122, .sipush 1000, 3), (125, .iload 6, 2)]
set_option maxRecDepth 100000 in
theorem dX6_oddsOf_58_g : dX6_oddsOf_58_l.all (fun x => decide (decode cX6_oddsOf x.1 = .ok x.2)) = true := by decide +kernel
theorem dX6_oddsOf_58 : decode cX6_oddsOf 58 = .ok (.istore 5, 2) := nq_d dX6_oddsOf_58_g (n := 0) rfl
theorem dX6_oddsOf_60 : decode cX6_oddsOf 60 = .ok (.iload 5, 2) := nq_d dX6_oddsOf_58_g (n := 1) rfl
theorem dX6_oddsOf_62 : decode cX6_oddsOf 62 = .ok (.ifCond .gt 5, 3) := nq_d dX6_oddsOf_58_g (n := 2) rfl
theorem dX6_oddsOf_65 : decode cX6_oddsOf 65 = .ok (.iconst 0, 1) := nq_d dX6_oddsOf_58_g (n := 3) rfl
theorem dX6_oddsOf_66 : decode cX6_oddsOf 66 = .ok (.ireturn, 1) := nq_d dX6_oddsOf_58_g (n := 4) rfl
theorem dX6_oddsOf_67 : decode cX6_oddsOf 67 = .ok (.sipush 1000, 3) := nq_d dX6_oddsOf_58_g (n := 5) rfl
theorem dX6_oddsOf_70 : decode cX6_oddsOf 70 = .ok (.aload_n 0, 1) := nq_d dX6_oddsOf_58_g (n := 6) rfl
theorem dX6_oddsOf_71 : decode cX6_oddsOf 71 = .ok (.getfield 15, 3) := nq_d dX6_oddsOf_58_g (n := 7) rfl
theorem dX6_oddsOf_74 : decode cX6_oddsOf 74 = .ok (.iload 4, 2) := nq_d dX6_oddsOf_58_g (n := 8) rfl
theorem dX6_oddsOf_76 : decode cX6_oddsOf 76 = .ok (.iaload, 1) := nq_d dX6_oddsOf_58_g (n := 9) rfl
theorem dX6_oddsOf_77 : decode cX6_oddsOf 77 = .ok (.iconst 1, 1) := nq_d dX6_oddsOf_58_g (n := 10) rfl
theorem dX6_oddsOf_78 : decode cX6_oddsOf 78 = .ok (.iadd, 1) := nq_d dX6_oddsOf_58_g (n := 11) rfl
theorem dX6_oddsOf_79 : decode cX6_oddsOf 79 = .ok (.imul, 1) := nq_d dX6_oddsOf_58_g (n := 12) rfl
theorem dX6_oddsOf_80 : decode cX6_oddsOf 80 = .ok (.iload 5, 2) := nq_d dX6_oddsOf_58_g (n := 13) rfl
theorem dX6_oddsOf_82 : decode cX6_oddsOf 82 = .ok (.idiv, 1) := nq_d dX6_oddsOf_58_g (n := 14) rfl
theorem dX6_oddsOf_83 : decode cX6_oddsOf 83 = .ok (.istore 6, 2) := nq_d dX6_oddsOf_58_g (n := 15) rfl
theorem dX6_oddsOf_85 : decode cX6_oddsOf 85 = .ok (.sipush 1000, 3) := nq_d dX6_oddsOf_58_g (n := 16) rfl
theorem dX6_oddsOf_88 : decode cX6_oddsOf 88 = .ok (.aload_n 0, 1) := nq_d dX6_oddsOf_58_g (n := 17) rfl
theorem dX6_oddsOf_89 : decode cX6_oddsOf 89 = .ok (.getfield 15, 3) := nq_d dX6_oddsOf_58_g (n := 18) rfl
theorem dX6_oddsOf_92 : decode cX6_oddsOf 92 = .ok (.iload 4, 2) := nq_d dX6_oddsOf_58_g (n := 19) rfl
theorem dX6_oddsOf_94 : decode cX6_oddsOf 94 = .ok (.iconst 1, 1) := nq_d dX6_oddsOf_58_g (n := 20) rfl
theorem dX6_oddsOf_95 : decode cX6_oddsOf 95 = .ok (.iadd, 1) := nq_d dX6_oddsOf_58_g (n := 21) rfl
theorem dX6_oddsOf_96 : decode cX6_oddsOf 96 = .ok (.iaload, 1) := nq_d dX6_oddsOf_58_g (n := 22) rfl
theorem dX6_oddsOf_97 : decode cX6_oddsOf 97 = .ok (.iconst 1, 1) := nq_d dX6_oddsOf_58_g (n := 23) rfl
theorem dX6_oddsOf_98 : decode cX6_oddsOf 98 = .ok (.iadd, 1) := nq_d dX6_oddsOf_58_g (n := 24) rfl
theorem dX6_oddsOf_99 : decode cX6_oddsOf 99 = .ok (.imul, 1) := nq_d dX6_oddsOf_58_g (n := 25) rfl
theorem dX6_oddsOf_100 : decode cX6_oddsOf 100 = .ok (.iload 5, 2) := nq_d dX6_oddsOf_58_g (n := 26) rfl
theorem dX6_oddsOf_102 : decode cX6_oddsOf 102 = .ok (.idiv, 1) := nq_d dX6_oddsOf_58_g (n := 27) rfl
theorem dX6_oddsOf_103 : decode cX6_oddsOf 103 = .ok (.istore 7, 2) := nq_d dX6_oddsOf_58_g (n := 28) rfl
theorem dX6_oddsOf_105 : decode cX6_oddsOf 105 = .ok (.iload_n 3, 1) := nq_d dX6_oddsOf_58_g (n := 29) rfl
theorem dX6_oddsOf_106 : decode cX6_oddsOf 106 = .ok (.ifCond .ne 6, 3) := nq_d dX6_oddsOf_58_g (n := 30) rfl
theorem dX6_oddsOf_109 : decode cX6_oddsOf 109 = .ok (.iload 6, 2) := nq_d dX6_oddsOf_58_g (n := 31) rfl
theorem dX6_oddsOf_111 : decode cX6_oddsOf 111 = .ok (.ireturn, 1) := nq_d dX6_oddsOf_58_g (n := 32) rfl
theorem dX6_oddsOf_112 : decode cX6_oddsOf 112 = .ok (.iload_n 3, 1) := nq_d dX6_oddsOf_58_g (n := 33) rfl
theorem dX6_oddsOf_113 : decode cX6_oddsOf 113 = .ok (.iconst 1, 1) := nq_d dX6_oddsOf_58_g (n := 34) rfl
theorem dX6_oddsOf_114 : decode cX6_oddsOf 114 = .ok (.if_icmp .ne 8, 3) := nq_d dX6_oddsOf_58_g (n := 35) rfl
theorem dX6_oddsOf_117 : decode cX6_oddsOf 117 = .ok (.iload 7, 2) := nq_d dX6_oddsOf_58_g (n := 36) rfl
theorem dX6_oddsOf_119 : decode cX6_oddsOf 119 = .ok (.goto 12, 3) := nq_d dX6_oddsOf_58_g (n := 37) rfl
theorem dX6_oddsOf_122 : decode cX6_oddsOf 122 = .ok (.sipush 1000, 3) := nq_d dX6_oddsOf_58_g (n := 38) rfl
theorem dX6_oddsOf_125 : decode cX6_oddsOf 125 = .ok (.iload 6, 2) := nq_d dX6_oddsOf_58_g (n := 39) rfl
noncomputable def dX6_oddsOf_127_l : List (Nat × Instr × Nat) := [(127, .isub, 1), (128, .iload 7, 2), (130, .isub, 1), (131, .ireturn, 1)]
set_option maxRecDepth 100000 in
theorem dX6_oddsOf_127_g : dX6_oddsOf_127_l.all (fun x => decide (decode cX6_oddsOf x.1 = .ok x.2)) = true := by decide +kernel
theorem dX6_oddsOf_127 : decode cX6_oddsOf 127 = .ok (.isub, 1) := nq_d dX6_oddsOf_127_g (n := 0) rfl
theorem dX6_oddsOf_128 : decode cX6_oddsOf 128 = .ok (.iload 7, 2) := nq_d dX6_oddsOf_127_g (n := 1) rfl
theorem dX6_oddsOf_130 : decode cX6_oddsOf 130 = .ok (.isub, 1) := nq_d dX6_oddsOf_127_g (n := 2) rfl
theorem dX6_oddsOf_131 : decode cX6_oddsOf 131 = .ok (.ireturn, 1) := nq_d dX6_oddsOf_127_g (n := 3) rfl
noncomputable def dX7_init_0_l : List (Nat × Instr × Nat) := [(0, .aload_n 0, 1), (1, .invokespecial 3, 3), (4, .aload_n 0, 1), (5, .bipush 16, 2), (7, .newarray .int, 2), (9, .putfield 9, 3), (12, .aload_n 0, 1), (13, .bipush 16, 2), (15, .newarray .int, 2), (17, .putfield 15, 3), (20, .aload_n 0, 1), (21, .bipush 24, 2), (23, .newarray .boolean, 2), (25, .putfield 18, 3), (28, .aload_n 0, 1), (29, .iconst 0, 1), (30, .putfield 22, 3), (33, .return_, 1)]
set_option maxRecDepth 100000 in
theorem dX7_init_0_g : dX7_init_0_l.all (fun x => decide (decode cX7_init x.1 = .ok x.2)) = true := by decide +kernel
theorem dX7_init_0 : decode cX7_init 0 = .ok (.aload_n 0, 1) := nq_d dX7_init_0_g (n := 0) rfl
theorem dX7_init_1 : decode cX7_init 1 = .ok (.invokespecial 3, 3) := nq_d dX7_init_0_g (n := 1) rfl
theorem dX7_init_4 : decode cX7_init 4 = .ok (.aload_n 0, 1) := nq_d dX7_init_0_g (n := 2) rfl
theorem dX7_init_5 : decode cX7_init 5 = .ok (.bipush 16, 2) := nq_d dX7_init_0_g (n := 3) rfl
theorem dX7_init_7 : decode cX7_init 7 = .ok (.newarray .int, 2) := nq_d dX7_init_0_g (n := 4) rfl
theorem dX7_init_9 : decode cX7_init 9 = .ok (.putfield 9, 3) := nq_d dX7_init_0_g (n := 5) rfl
theorem dX7_init_12 : decode cX7_init 12 = .ok (.aload_n 0, 1) := nq_d dX7_init_0_g (n := 6) rfl
theorem dX7_init_13 : decode cX7_init 13 = .ok (.bipush 16, 2) := nq_d dX7_init_0_g (n := 7) rfl
theorem dX7_init_15 : decode cX7_init 15 = .ok (.newarray .int, 2) := nq_d dX7_init_0_g (n := 8) rfl
theorem dX7_init_17 : decode cX7_init 17 = .ok (.putfield 15, 3) := nq_d dX7_init_0_g (n := 9) rfl
theorem dX7_init_20 : decode cX7_init 20 = .ok (.aload_n 0, 1) := nq_d dX7_init_0_g (n := 10) rfl
theorem dX7_init_21 : decode cX7_init 21 = .ok (.bipush 24, 2) := nq_d dX7_init_0_g (n := 11) rfl
theorem dX7_init_23 : decode cX7_init 23 = .ok (.newarray .boolean, 2) := nq_d dX7_init_0_g (n := 12) rfl
theorem dX7_init_25 : decode cX7_init 25 = .ok (.putfield 18, 3) := nq_d dX7_init_0_g (n := 13) rfl
theorem dX7_init_28 : decode cX7_init 28 = .ok (.aload_n 0, 1) := nq_d dX7_init_0_g (n := 14) rfl
theorem dX7_init_29 : decode cX7_init 29 = .ok (.iconst 0, 1) := nq_d dX7_init_0_g (n := 15) rfl
theorem dX7_init_30 : decode cX7_init 30 = .ok (.putfield 22, 3) := nq_d dX7_init_0_g (n := 16) rfl
theorem dX7_init_33 : decode cX7_init 33 = .ok (.return_, 1) := nq_d dX7_init_0_g (n := 17) rfl
set_option maxRecDepth 100000 in
theorem ggX7_pegOf_X10_within : GoodIn wsX7_pegOf wsX10_within := goodIn_sub (sub_c (nq_m (n := 4) rfl) sub_n) (by decide +kernel)
set_option maxRecDepth 100000 in
theorem gX7_pegOf_X10_within_n26 : GoodIn wsX7_pegOf (wsX10_within) := ggX7_pegOf_X10_within
noncomputable def dX7_pegOf_0_l : List (Nat × Instr × Nat) := [(0, .iload_n 1, 1), (1, .iconst 0, 1), (2, .bipush 15, 2), (4, .invokestatic 26, 3), (7, .ifCond .eq 12, 3), (10, .aload_n 0, 1), (11, .getfield 15, 3), (14, .iload_n 1, 1), (15, .iaload, 1), (16, .goto 4, 3), (19, .iconst (-1), 1), (20, .ireturn, 1)]
set_option maxRecDepth 100000 in
theorem dX7_pegOf_0_g : dX7_pegOf_0_l.all (fun x => decide (decode cX7_pegOf x.1 = .ok x.2)) = true := by decide +kernel
theorem dX7_pegOf_0 : decode cX7_pegOf 0 = .ok (.iload_n 1, 1) := nq_d dX7_pegOf_0_g (n := 0) rfl
theorem dX7_pegOf_1 : decode cX7_pegOf 1 = .ok (.iconst 0, 1) := nq_d dX7_pegOf_0_g (n := 1) rfl
theorem dX7_pegOf_2 : decode cX7_pegOf 2 = .ok (.bipush 15, 2) := nq_d dX7_pegOf_0_g (n := 2) rfl
theorem dX7_pegOf_4 : decode cX7_pegOf 4 = .ok (.invokestatic 26, 3) := nq_d dX7_pegOf_0_g (n := 3) rfl
theorem dX7_pegOf_7 : decode cX7_pegOf 7 = .ok (.ifCond .eq 12, 3) := nq_d dX7_pegOf_0_g (n := 4) rfl
theorem dX7_pegOf_10 : decode cX7_pegOf 10 = .ok (.aload_n 0, 1) := nq_d dX7_pegOf_0_g (n := 5) rfl
theorem dX7_pegOf_11 : decode cX7_pegOf 11 = .ok (.getfield 15, 3) := nq_d dX7_pegOf_0_g (n := 6) rfl
theorem dX7_pegOf_14 : decode cX7_pegOf 14 = .ok (.iload_n 1, 1) := nq_d dX7_pegOf_0_g (n := 7) rfl
theorem dX7_pegOf_15 : decode cX7_pegOf 15 = .ok (.iaload, 1) := nq_d dX7_pegOf_0_g (n := 8) rfl
theorem dX7_pegOf_16 : decode cX7_pegOf 16 = .ok (.goto 4, 3) := nq_d dX7_pegOf_0_g (n := 9) rfl
theorem dX7_pegOf_19 : decode cX7_pegOf 19 = .ok (.iconst (-1), 1) := nq_d dX7_pegOf_0_g (n := 10) rfl
theorem dX7_pegOf_20 : decode cX7_pegOf 20 = .ok (.ireturn, 1) := nq_d dX7_pegOf_0_g (n := 11) rfl
set_option maxRecDepth 100000 in
theorem ggX7_make_X7_greatestLeft : GoodIn wsX7_make wsX7_greatestLeft := goodIn_sub (sub_c (nq_m (n := 10) rfl) (sub_c (nq_m (n := 4) rfl) (sub_c (nq_m (n := 3) rfl) (sub_c (nq_m (n := 5) rfl) (sub_c (nq_m (n := 50) rfl) (sub_c (nq_m (n := 51) rfl) (sub_c (nq_m (n := 52) rfl) (sub_c (nq_m (n := 53) rfl) (sub_c (nq_m (n := 54) rfl) (sub_c (nq_m (n := 55) rfl) (sub_c (nq_m (n := 56) rfl) (sub_c (nq_m (n := 57) rfl) (sub_c (nq_m (n := 46) rfl) (sub_c (nq_m (n := 47) rfl) (sub_c (nq_m (n := 48) rfl) (sub_c (nq_m (n := 49) rfl) sub_n)))))))))))))))) (by decide +kernel)
set_option maxRecDepth 100000 in
theorem gX7_make_X7_greatestLeft : GoodIn wsX7_make (wsV RX7 35 RX7 yX7_greatestLeft wsX7_greatestLeft) := goodIn_app (goodIn_sub (sub_c (nq_m (n := 6) rfl) (sub_c (nq_m (n := 7) rfl) (sub_c (nq_m (n := 8) rfl) (sub_c (nq_m (n := 9) rfl) sub_n)))) (by decide +kernel)) ggX7_make_X7_greatestLeft
set_option maxRecDepth 100000 in
theorem ggX7_make_X2_kindOf : GoodIn wsX7_make wsX2_kindOf := goodIn_sub (sub_c (nq_m (n := 15) rfl) (sub_c (nq_m (n := 16) rfl) (sub_c (nq_m (n := 17) rfl) (sub_c (nq_m (n := 18) rfl) (sub_c (nq_m (n := 19) rfl) (sub_c (nq_m (n := 14) rfl) (sub_c (nq_m (n := 20) rfl) (sub_c (nq_m (n := 21) rfl) (sub_c (nq_m (n := 50) rfl) (sub_c (nq_m (n := 51) rfl) (sub_c (nq_m (n := 52) rfl) (sub_c (nq_m (n := 53) rfl) (sub_c (nq_m (n := 54) rfl) (sub_c (nq_m (n := 55) rfl) (sub_c (nq_m (n := 56) rfl) (sub_c (nq_m (n := 57) rfl) sub_n)))))))))))))))) (by decide +kernel)
set_option maxRecDepth 100000 in
theorem gX7_make_X2_kindOf : GoodIn wsX7_make (wsV RX7 39 RX2 yX2_kindOf wsX2_kindOf) := goodIn_app (goodIn_sub (sub_c (nq_m (n := 11) rfl) (sub_c (nq_m (n := 12) rfl) (sub_c (nq_m (n := 13) rfl) (sub_c (nq_m (n := 14) rfl) sub_n)))) (by decide +kernel)) ggX7_make_X2_kindOf
set_option maxRecDepth 100000 in
theorem ggX7_make_X7_leastWalkLeft : GoodIn wsX7_make wsX7_leastWalkLeft := goodIn_sub (sub_c (nq_m (n := 25) rfl) (sub_c (nq_m (n := 26) rfl) (sub_c (nq_m (n := 2) rfl) (sub_c (nq_m (n := 27) rfl) (sub_c (nq_m (n := 28) rfl) (sub_c (nq_m (n := 29) rfl) (sub_c (nq_m (n := 30) rfl) (sub_c (nq_m (n := 31) rfl) (sub_c (nq_m (n := 32) rfl) (sub_c (nq_m (n := 33) rfl) (sub_c (nq_m (n := 34) rfl) (sub_c (nq_m (n := 35) rfl) (sub_c (nq_m (n := 36) rfl) (sub_c (nq_m (n := 37) rfl) (sub_c (nq_m (n := 38) rfl) (sub_c (nq_m (n := 58) rfl) (sub_c (nq_m (n := 59) rfl) (sub_c (nq_m (n := 60) rfl) (sub_c (nq_m (n := 61) rfl) (sub_c (nq_m (n := 62) rfl) (sub_c (nq_m (n := 63) rfl) (sub_c (nq_m (n := 64) rfl) (sub_c (nq_m (n := 46) rfl) (sub_c (nq_m (n := 47) rfl) (sub_c (nq_m (n := 48) rfl) (sub_c (nq_m (n := 49) rfl) sub_n)))))))))))))))))))))))))) (by decide +kernel)
set_option maxRecDepth 100000 in
theorem gX7_make_X7_leastWalkLeft : GoodIn wsX7_make (wsV RX7 43 RX7 yX7_leastWalkLeft wsX7_leastWalkLeft) := goodIn_app (goodIn_sub (sub_c (nq_m (n := 22) rfl) (sub_c (nq_m (n := 23) rfl) (sub_c (nq_m (n := 24) rfl) (sub_c (nq_m (n := 9) rfl) sub_n)))) (by decide +kernel)) ggX7_make_X7_leastWalkLeft
set_option maxRecDepth 100000 in
theorem ggX7_make_X2_knows : GoodIn wsX7_make wsX2_knows := goodIn_sub (sub_c (nq_m (n := 20) rfl) (sub_c (nq_m (n := 21) rfl) (sub_c (nq_m (n := 50) rfl) (sub_c (nq_m (n := 51) rfl) (sub_c (nq_m (n := 52) rfl) (sub_c (nq_m (n := 53) rfl) (sub_c (nq_m (n := 54) rfl) (sub_c (nq_m (n := 55) rfl) (sub_c (nq_m (n := 56) rfl) (sub_c (nq_m (n := 57) rfl) sub_n)))))))))) (by decide +kernel)
set_option maxRecDepth 100000 in
theorem gX7_make_X2_knows : GoodIn wsX7_make (wsV RX7 47 RX2 yX2_knows wsX2_knows) := goodIn_app (goodIn_sub (sub_c (nq_m (n := 39) rfl) (sub_c (nq_m (n := 18) rfl) (sub_c (nq_m (n := 19) rfl) (sub_c (nq_m (n := 14) rfl) sub_n)))) (by decide +kernel)) ggX7_make_X2_knows
set_option maxRecDepth 100000 in
theorem ggX7_make_X3_hasPeg : GoodIn wsX7_make wsX3_hasPeg := goodIn_sub (sub_c (nq_m (n := 37) rfl) (sub_c (nq_m (n := 38) rfl) (sub_c (nq_m (n := 58) rfl) (sub_c (nq_m (n := 59) rfl) (sub_c (nq_m (n := 60) rfl) (sub_c (nq_m (n := 61) rfl) (sub_c (nq_m (n := 62) rfl) (sub_c (nq_m (n := 63) rfl) (sub_c (nq_m (n := 64) rfl) sub_n))))))))) (by decide +kernel)
set_option maxRecDepth 100000 in
theorem gX7_make_X3_hasPeg : GoodIn wsX7_make (wsV RX7 51 RX3 yX3_hasPeg wsX3_hasPeg) := goodIn_app (goodIn_sub (sub_c (nq_m (n := 40) rfl) (sub_c (nq_m (n := 35) rfl) (sub_c (nq_m (n := 36) rfl) (sub_c (nq_m (n := 31) rfl) sub_n)))) (by decide +kernel)) ggX7_make_X3_hasPeg
set_option maxRecDepth 100000 in
theorem ggX7_make_X3_walkOf : GoodIn wsX7_make wsX3_walkOf := goodIn_sub (sub_c (nq_m (n := 44) rfl) (sub_c (nq_m (n := 45) rfl) (sub_c (nq_m (n := 34) rfl) (sub_c (nq_m (n := 35) rfl) (sub_c (nq_m (n := 36) rfl) (sub_c (nq_m (n := 31) rfl) (sub_c (nq_m (n := 37) rfl) (sub_c (nq_m (n := 38) rfl) (sub_c (nq_m (n := 58) rfl) (sub_c (nq_m (n := 59) rfl) (sub_c (nq_m (n := 60) rfl) (sub_c (nq_m (n := 61) rfl) (sub_c (nq_m (n := 62) rfl) (sub_c (nq_m (n := 63) rfl) (sub_c (nq_m (n := 64) rfl) sub_n))))))))))))))) (by decide +kernel)
set_option maxRecDepth 100000 in
theorem gX7_make_X3_walkOf : GoodIn wsX7_make (wsV RX7 56 RX3 yX3_walkOf wsX3_walkOf) := goodIn_app (goodIn_sub (sub_c (nq_m (n := 41) rfl) (sub_c (nq_m (n := 42) rfl) (sub_c (nq_m (n := 43) rfl) (sub_c (nq_m (n := 31) rfl) sub_n)))) (by decide +kernel)) ggX7_make_X3_walkOf
noncomputable def dX7_make_0_l : List (Nat × Instr × Nat) := [(0, .aload_n 0, 1), (1, .iconst 0, 1), (2, .putfield 22, 3), (5, .iconst 0, 1), (6, .istore 4, 2), (8, .iload 4, 2), (10, .bipush 24, 2), (12, .if_icmp .ge 17, 3), (15, .aload_n 0, 1), (16, .getfield 18, 3), (19, .iload 4, 2), (21, .iconst 0, 1), (22, .bastore, 1), (23, .iinc 4 1, 3), (26, .goto (-18), 3), (29, .iconst 0, 1), (30, .istore 4, 2), (32, .iload 4, 2), (34, .bipush 16, 2), (36, .if_icmp .ge 17, 3), (39, .aload_n 0, 1), (40, .getfield 15, 3), (43, .iload 4, 2), (45, .iconst (-1), 1), (46, .iastore, 1), (47, .iinc 4 1, 3), (50, .goto (-18), 3), (53, .iconst 0, 1), (54, .istore 4, 2), (56, .iload 4, 2), (58, .aload_n 2, 1), (59, .getfield 30, 3), (62, .if_icmp .ge 98, 3), (65, .iload_n 1, 1), (66, .ifCond .eq 8, 3), (69, .iload 4, 2), (71, .goto 8, 3), (74, .aload_n 0, 1), (75, .aload_n 2, 1), (76, .invokevirtual 35, 3)]
set_option maxRecDepth 100000 in
theorem dX7_make_0_g : dX7_make_0_l.all (fun x => decide (decode cX7_make x.1 = .ok x.2)) = true := by decide +kernel
theorem dX7_make_0 : decode cX7_make 0 = .ok (.aload_n 0, 1) := nq_d dX7_make_0_g (n := 0) rfl
theorem dX7_make_1 : decode cX7_make 1 = .ok (.iconst 0, 1) := nq_d dX7_make_0_g (n := 1) rfl
theorem dX7_make_2 : decode cX7_make 2 = .ok (.putfield 22, 3) := nq_d dX7_make_0_g (n := 2) rfl
theorem dX7_make_5 : decode cX7_make 5 = .ok (.iconst 0, 1) := nq_d dX7_make_0_g (n := 3) rfl
theorem dX7_make_6 : decode cX7_make 6 = .ok (.istore 4, 2) := nq_d dX7_make_0_g (n := 4) rfl
theorem dX7_make_8 : decode cX7_make 8 = .ok (.iload 4, 2) := nq_d dX7_make_0_g (n := 5) rfl
theorem dX7_make_10 : decode cX7_make 10 = .ok (.bipush 24, 2) := nq_d dX7_make_0_g (n := 6) rfl
theorem dX7_make_12 : decode cX7_make 12 = .ok (.if_icmp .ge 17, 3) := nq_d dX7_make_0_g (n := 7) rfl
theorem dX7_make_15 : decode cX7_make 15 = .ok (.aload_n 0, 1) := nq_d dX7_make_0_g (n := 8) rfl
theorem dX7_make_16 : decode cX7_make 16 = .ok (.getfield 18, 3) := nq_d dX7_make_0_g (n := 9) rfl
theorem dX7_make_19 : decode cX7_make 19 = .ok (.iload 4, 2) := nq_d dX7_make_0_g (n := 10) rfl
theorem dX7_make_21 : decode cX7_make 21 = .ok (.iconst 0, 1) := nq_d dX7_make_0_g (n := 11) rfl
theorem dX7_make_22 : decode cX7_make 22 = .ok (.bastore, 1) := nq_d dX7_make_0_g (n := 12) rfl
theorem dX7_make_23 : decode cX7_make 23 = .ok (.iinc 4 1, 3) := nq_d dX7_make_0_g (n := 13) rfl
theorem dX7_make_26 : decode cX7_make 26 = .ok (.goto (-18), 3) := nq_d dX7_make_0_g (n := 14) rfl
theorem dX7_make_29 : decode cX7_make 29 = .ok (.iconst 0, 1) := nq_d dX7_make_0_g (n := 15) rfl
theorem dX7_make_30 : decode cX7_make 30 = .ok (.istore 4, 2) := nq_d dX7_make_0_g (n := 16) rfl
theorem dX7_make_32 : decode cX7_make 32 = .ok (.iload 4, 2) := nq_d dX7_make_0_g (n := 17) rfl
theorem dX7_make_34 : decode cX7_make 34 = .ok (.bipush 16, 2) := nq_d dX7_make_0_g (n := 18) rfl
theorem dX7_make_36 : decode cX7_make 36 = .ok (.if_icmp .ge 17, 3) := nq_d dX7_make_0_g (n := 19) rfl
theorem dX7_make_39 : decode cX7_make 39 = .ok (.aload_n 0, 1) := nq_d dX7_make_0_g (n := 20) rfl
theorem dX7_make_40 : decode cX7_make 40 = .ok (.getfield 15, 3) := nq_d dX7_make_0_g (n := 21) rfl
theorem dX7_make_43 : decode cX7_make 43 = .ok (.iload 4, 2) := nq_d dX7_make_0_g (n := 22) rfl
theorem dX7_make_45 : decode cX7_make 45 = .ok (.iconst (-1), 1) := nq_d dX7_make_0_g (n := 23) rfl
theorem dX7_make_46 : decode cX7_make 46 = .ok (.iastore, 1) := nq_d dX7_make_0_g (n := 24) rfl
theorem dX7_make_47 : decode cX7_make 47 = .ok (.iinc 4 1, 3) := nq_d dX7_make_0_g (n := 25) rfl
theorem dX7_make_50 : decode cX7_make 50 = .ok (.goto (-18), 3) := nq_d dX7_make_0_g (n := 26) rfl
theorem dX7_make_53 : decode cX7_make 53 = .ok (.iconst 0, 1) := nq_d dX7_make_0_g (n := 27) rfl
theorem dX7_make_54 : decode cX7_make 54 = .ok (.istore 4, 2) := nq_d dX7_make_0_g (n := 28) rfl
theorem dX7_make_56 : decode cX7_make 56 = .ok (.iload 4, 2) := nq_d dX7_make_0_g (n := 29) rfl
theorem dX7_make_58 : decode cX7_make 58 = .ok (.aload_n 2, 1) := nq_d dX7_make_0_g (n := 30) rfl
theorem dX7_make_59 : decode cX7_make 59 = .ok (.getfield 30, 3) := nq_d dX7_make_0_g (n := 31) rfl
theorem dX7_make_62 : decode cX7_make 62 = .ok (.if_icmp .ge 98, 3) := nq_d dX7_make_0_g (n := 32) rfl
theorem dX7_make_65 : decode cX7_make 65 = .ok (.iload_n 1, 1) := nq_d dX7_make_0_g (n := 33) rfl
theorem dX7_make_66 : decode cX7_make 66 = .ok (.ifCond .eq 8, 3) := nq_d dX7_make_0_g (n := 34) rfl
theorem dX7_make_69 : decode cX7_make 69 = .ok (.iload 4, 2) := nq_d dX7_make_0_g (n := 35) rfl
theorem dX7_make_71 : decode cX7_make 71 = .ok (.goto 8, 3) := nq_d dX7_make_0_g (n := 36) rfl
theorem dX7_make_74 : decode cX7_make 74 = .ok (.aload_n 0, 1) := nq_d dX7_make_0_g (n := 37) rfl
theorem dX7_make_75 : decode cX7_make 75 = .ok (.aload_n 2, 1) := nq_d dX7_make_0_g (n := 38) rfl
theorem dX7_make_76 : decode cX7_make 76 = .ok (.invokevirtual 35, 3) := nq_d dX7_make_0_g (n := 39) rfl
noncomputable def dX7_make_79_l : List (Nat × Instr × Nat) := [(79, .istore 5, 2), (81, .aload_n 0, 1), (82, .aload_n 2, 1), (83, .iload 5, 2), (85, .invokevirtual 39, 3), (88, .aload_n 3, 1), (89, .invokevirtual 43, 3), (92, .istore 6, 2), (94, .aload_n 2, 1), (95, .iload 5, 2), (97, .invokevirtual 47, 3), (100, .ifCond .eq 12, 3), (103, .aload_n 3, 1), (104, .iload 6, 2), (106, .invokevirtual 51, 3), (109, .ifCond .ne 5, 3), (112, .iconst 0, 1), (113, .ireturn, 1), (114, .aload_n 0, 1), (115, .getfield 15, 3), (118, .iload 5, 2), (120, .iload 6, 2), (122, .iastore, 1), (123, .aload_n 0, 1), (124, .getfield 18, 3), (127, .iload 6, 2), (129, .iconst 1, 1), (130, .bastore, 1), (131, .aload_n 0, 1), (132, .dup, 1), (133, .getfield 22, 3), (136, .aload_n 0, 1), (137, .getfield 9, 3), (140, .iload 5, 2), (142, .iaload, 1), (143, .aload_n 3, 1), (144, .iload 6, 2), (146, .invokevirtual 56, 3), (149, .imul, 1), (150, .iadd, 1)]
set_option maxRecDepth 100000 in
theorem dX7_make_79_g : dX7_make_79_l.all (fun x => decide (decode cX7_make x.1 = .ok x.2)) = true := by decide +kernel
theorem dX7_make_79 : decode cX7_make 79 = .ok (.istore 5, 2) := nq_d dX7_make_79_g (n := 0) rfl
theorem dX7_make_81 : decode cX7_make 81 = .ok (.aload_n 0, 1) := nq_d dX7_make_79_g (n := 1) rfl
theorem dX7_make_82 : decode cX7_make 82 = .ok (.aload_n 2, 1) := nq_d dX7_make_79_g (n := 2) rfl
theorem dX7_make_83 : decode cX7_make 83 = .ok (.iload 5, 2) := nq_d dX7_make_79_g (n := 3) rfl
theorem dX7_make_85 : decode cX7_make 85 = .ok (.invokevirtual 39, 3) := nq_d dX7_make_79_g (n := 4) rfl
theorem dX7_make_88 : decode cX7_make 88 = .ok (.aload_n 3, 1) := nq_d dX7_make_79_g (n := 5) rfl
theorem dX7_make_89 : decode cX7_make 89 = .ok (.invokevirtual 43, 3) := nq_d dX7_make_79_g (n := 6) rfl
theorem dX7_make_92 : decode cX7_make 92 = .ok (.istore 6, 2) := nq_d dX7_make_79_g (n := 7) rfl
theorem dX7_make_94 : decode cX7_make 94 = .ok (.aload_n 2, 1) := nq_d dX7_make_79_g (n := 8) rfl
theorem dX7_make_95 : decode cX7_make 95 = .ok (.iload 5, 2) := nq_d dX7_make_79_g (n := 9) rfl
theorem dX7_make_97 : decode cX7_make 97 = .ok (.invokevirtual 47, 3) := nq_d dX7_make_79_g (n := 10) rfl
theorem dX7_make_100 : decode cX7_make 100 = .ok (.ifCond .eq 12, 3) := nq_d dX7_make_79_g (n := 11) rfl
theorem dX7_make_103 : decode cX7_make 103 = .ok (.aload_n 3, 1) := nq_d dX7_make_79_g (n := 12) rfl
theorem dX7_make_104 : decode cX7_make 104 = .ok (.iload 6, 2) := nq_d dX7_make_79_g (n := 13) rfl
theorem dX7_make_106 : decode cX7_make 106 = .ok (.invokevirtual 51, 3) := nq_d dX7_make_79_g (n := 14) rfl
theorem dX7_make_109 : decode cX7_make 109 = .ok (.ifCond .ne 5, 3) := nq_d dX7_make_79_g (n := 15) rfl
theorem dX7_make_112 : decode cX7_make 112 = .ok (.iconst 0, 1) := nq_d dX7_make_79_g (n := 16) rfl
theorem dX7_make_113 : decode cX7_make 113 = .ok (.ireturn, 1) := nq_d dX7_make_79_g (n := 17) rfl
theorem dX7_make_114 : decode cX7_make 114 = .ok (.aload_n 0, 1) := nq_d dX7_make_79_g (n := 18) rfl
theorem dX7_make_115 : decode cX7_make 115 = .ok (.getfield 15, 3) := nq_d dX7_make_79_g (n := 19) rfl
theorem dX7_make_118 : decode cX7_make 118 = .ok (.iload 5, 2) := nq_d dX7_make_79_g (n := 20) rfl
theorem dX7_make_120 : decode cX7_make 120 = .ok (.iload 6, 2) := nq_d dX7_make_79_g (n := 21) rfl
theorem dX7_make_122 : decode cX7_make 122 = .ok (.iastore, 1) := nq_d dX7_make_79_g (n := 22) rfl
theorem dX7_make_123 : decode cX7_make 123 = .ok (.aload_n 0, 1) := nq_d dX7_make_79_g (n := 23) rfl
theorem dX7_make_124 : decode cX7_make 124 = .ok (.getfield 18, 3) := nq_d dX7_make_79_g (n := 24) rfl
theorem dX7_make_127 : decode cX7_make 127 = .ok (.iload 6, 2) := nq_d dX7_make_79_g (n := 25) rfl
theorem dX7_make_129 : decode cX7_make 129 = .ok (.iconst 1, 1) := nq_d dX7_make_79_g (n := 26) rfl
theorem dX7_make_130 : decode cX7_make 130 = .ok (.bastore, 1) := nq_d dX7_make_79_g (n := 27) rfl
theorem dX7_make_131 : decode cX7_make 131 = .ok (.aload_n 0, 1) := nq_d dX7_make_79_g (n := 28) rfl
theorem dX7_make_132 : decode cX7_make 132 = .ok (.dup, 1) := nq_d dX7_make_79_g (n := 29) rfl
theorem dX7_make_133 : decode cX7_make 133 = .ok (.getfield 22, 3) := nq_d dX7_make_79_g (n := 30) rfl
theorem dX7_make_136 : decode cX7_make 136 = .ok (.aload_n 0, 1) := nq_d dX7_make_79_g (n := 31) rfl
theorem dX7_make_137 : decode cX7_make 137 = .ok (.getfield 9, 3) := nq_d dX7_make_79_g (n := 32) rfl
theorem dX7_make_140 : decode cX7_make 140 = .ok (.iload 5, 2) := nq_d dX7_make_79_g (n := 33) rfl
theorem dX7_make_142 : decode cX7_make 142 = .ok (.iaload, 1) := nq_d dX7_make_79_g (n := 34) rfl
theorem dX7_make_143 : decode cX7_make 143 = .ok (.aload_n 3, 1) := nq_d dX7_make_79_g (n := 35) rfl
theorem dX7_make_144 : decode cX7_make 144 = .ok (.iload 6, 2) := nq_d dX7_make_79_g (n := 36) rfl
theorem dX7_make_146 : decode cX7_make 146 = .ok (.invokevirtual 56, 3) := nq_d dX7_make_79_g (n := 37) rfl
theorem dX7_make_149 : decode cX7_make 149 = .ok (.imul, 1) := nq_d dX7_make_79_g (n := 38) rfl
theorem dX7_make_150 : decode cX7_make 150 = .ok (.iadd, 1) := nq_d dX7_make_79_g (n := 39) rfl
noncomputable def dX7_make_151_l : List (Nat × Instr × Nat) := [(151, .putfield 22, 3), (154, .iinc 4 1, 3), (157, .goto (-101), 3), (160, .iconst 1, 1), (161, .ireturn, 1)]
set_option maxRecDepth 100000 in
theorem dX7_make_151_g : dX7_make_151_l.all (fun x => decide (decode cX7_make x.1 = .ok x.2)) = true := by decide +kernel
theorem dX7_make_151 : decode cX7_make 151 = .ok (.putfield 22, 3) := nq_d dX7_make_151_g (n := 0) rfl
theorem dX7_make_154 : decode cX7_make 154 = .ok (.iinc 4 1, 3) := nq_d dX7_make_151_g (n := 1) rfl
theorem dX7_make_157 : decode cX7_make 157 = .ok (.goto (-101), 3) := nq_d dX7_make_151_g (n := 2) rfl
theorem dX7_make_160 : decode cX7_make 160 = .ok (.iconst 1, 1) := nq_d dX7_make_151_g (n := 3) rfl
theorem dX7_make_161 : decode cX7_make 161 = .ok (.ireturn, 1) := nq_d dX7_make_151_g (n := 4) rfl
noncomputable def dX7_greatestLeft_0_l : List (Nat × Instr × Nat) := [(0, .iconst (-1), 1), (1, .istore_n 2, 1), (2, .iconst 0, 1), (3, .istore_n 3, 1), (4, .iload_n 3, 1), (5, .aload_n 1, 1), (6, .getfield 30, 3), (9, .if_icmp .ge 41, 3), (12, .aload_n 0, 1), (13, .getfield 15, 3), (16, .iload_n 3, 1), (17, .iaload, 1), (18, .iconst (-1), 1), (19, .if_icmp .ne 25, 3), (22, .iload_n 2, 1), (23, .iconst (-1), 1), (24, .if_icmp .eq 18, 3), (27, .aload_n 0, 1), (28, .getfield 9, 3), (31, .iload_n 3, 1), (32, .iaload, 1), (33, .aload_n 0, 1), (34, .getfield 9, 3), (37, .iload_n 2, 1), (38, .iaload, 1), (39, .if_icmp .le 5, 3), (42, .iload_n 3, 1), (43, .istore_n 2, 1), (44, .iinc 3 1, 3), (47, .goto (-43), 3), (50, .iload_n 2, 1), (51, .ireturn, 1)]
set_option maxRecDepth 100000 in
theorem dX7_greatestLeft_0_g : dX7_greatestLeft_0_l.all (fun x => decide (decode cX7_greatestLeft x.1 = .ok x.2)) = true := by decide +kernel
theorem dX7_greatestLeft_0 : decode cX7_greatestLeft 0 = .ok (.iconst (-1), 1) := nq_d dX7_greatestLeft_0_g (n := 0) rfl
theorem dX7_greatestLeft_1 : decode cX7_greatestLeft 1 = .ok (.istore_n 2, 1) := nq_d dX7_greatestLeft_0_g (n := 1) rfl
theorem dX7_greatestLeft_2 : decode cX7_greatestLeft 2 = .ok (.iconst 0, 1) := nq_d dX7_greatestLeft_0_g (n := 2) rfl
theorem dX7_greatestLeft_3 : decode cX7_greatestLeft 3 = .ok (.istore_n 3, 1) := nq_d dX7_greatestLeft_0_g (n := 3) rfl
theorem dX7_greatestLeft_4 : decode cX7_greatestLeft 4 = .ok (.iload_n 3, 1) := nq_d dX7_greatestLeft_0_g (n := 4) rfl
theorem dX7_greatestLeft_5 : decode cX7_greatestLeft 5 = .ok (.aload_n 1, 1) := nq_d dX7_greatestLeft_0_g (n := 5) rfl
theorem dX7_greatestLeft_6 : decode cX7_greatestLeft 6 = .ok (.getfield 30, 3) := nq_d dX7_greatestLeft_0_g (n := 6) rfl
theorem dX7_greatestLeft_9 : decode cX7_greatestLeft 9 = .ok (.if_icmp .ge 41, 3) := nq_d dX7_greatestLeft_0_g (n := 7) rfl
theorem dX7_greatestLeft_12 : decode cX7_greatestLeft 12 = .ok (.aload_n 0, 1) := nq_d dX7_greatestLeft_0_g (n := 8) rfl
theorem dX7_greatestLeft_13 : decode cX7_greatestLeft 13 = .ok (.getfield 15, 3) := nq_d dX7_greatestLeft_0_g (n := 9) rfl
theorem dX7_greatestLeft_16 : decode cX7_greatestLeft 16 = .ok (.iload_n 3, 1) := nq_d dX7_greatestLeft_0_g (n := 10) rfl
theorem dX7_greatestLeft_17 : decode cX7_greatestLeft 17 = .ok (.iaload, 1) := nq_d dX7_greatestLeft_0_g (n := 11) rfl
theorem dX7_greatestLeft_18 : decode cX7_greatestLeft 18 = .ok (.iconst (-1), 1) := nq_d dX7_greatestLeft_0_g (n := 12) rfl
theorem dX7_greatestLeft_19 : decode cX7_greatestLeft 19 = .ok (.if_icmp .ne 25, 3) := nq_d dX7_greatestLeft_0_g (n := 13) rfl
theorem dX7_greatestLeft_22 : decode cX7_greatestLeft 22 = .ok (.iload_n 2, 1) := nq_d dX7_greatestLeft_0_g (n := 14) rfl
theorem dX7_greatestLeft_23 : decode cX7_greatestLeft 23 = .ok (.iconst (-1), 1) := nq_d dX7_greatestLeft_0_g (n := 15) rfl
theorem dX7_greatestLeft_24 : decode cX7_greatestLeft 24 = .ok (.if_icmp .eq 18, 3) := nq_d dX7_greatestLeft_0_g (n := 16) rfl
theorem dX7_greatestLeft_27 : decode cX7_greatestLeft 27 = .ok (.aload_n 0, 1) := nq_d dX7_greatestLeft_0_g (n := 17) rfl
theorem dX7_greatestLeft_28 : decode cX7_greatestLeft 28 = .ok (.getfield 9, 3) := nq_d dX7_greatestLeft_0_g (n := 18) rfl
theorem dX7_greatestLeft_31 : decode cX7_greatestLeft 31 = .ok (.iload_n 3, 1) := nq_d dX7_greatestLeft_0_g (n := 19) rfl
theorem dX7_greatestLeft_32 : decode cX7_greatestLeft 32 = .ok (.iaload, 1) := nq_d dX7_greatestLeft_0_g (n := 20) rfl
theorem dX7_greatestLeft_33 : decode cX7_greatestLeft 33 = .ok (.aload_n 0, 1) := nq_d dX7_greatestLeft_0_g (n := 21) rfl
theorem dX7_greatestLeft_34 : decode cX7_greatestLeft 34 = .ok (.getfield 9, 3) := nq_d dX7_greatestLeft_0_g (n := 22) rfl
theorem dX7_greatestLeft_37 : decode cX7_greatestLeft 37 = .ok (.iload_n 2, 1) := nq_d dX7_greatestLeft_0_g (n := 23) rfl
theorem dX7_greatestLeft_38 : decode cX7_greatestLeft 38 = .ok (.iaload, 1) := nq_d dX7_greatestLeft_0_g (n := 24) rfl
theorem dX7_greatestLeft_39 : decode cX7_greatestLeft 39 = .ok (.if_icmp .le 5, 3) := nq_d dX7_greatestLeft_0_g (n := 25) rfl
theorem dX7_greatestLeft_42 : decode cX7_greatestLeft 42 = .ok (.iload_n 3, 1) := nq_d dX7_greatestLeft_0_g (n := 26) rfl
theorem dX7_greatestLeft_43 : decode cX7_greatestLeft 43 = .ok (.istore_n 2, 1) := nq_d dX7_greatestLeft_0_g (n := 27) rfl
theorem dX7_greatestLeft_44 : decode cX7_greatestLeft 44 = .ok (.iinc 3 1, 3) := nq_d dX7_greatestLeft_0_g (n := 28) rfl
theorem dX7_greatestLeft_47 : decode cX7_greatestLeft 47 = .ok (.goto (-43), 3) := nq_d dX7_greatestLeft_0_g (n := 29) rfl
theorem dX7_greatestLeft_50 : decode cX7_greatestLeft 50 = .ok (.iload_n 2, 1) := nq_d dX7_greatestLeft_0_g (n := 30) rfl
theorem dX7_greatestLeft_51 : decode cX7_greatestLeft 51 = .ok (.ireturn, 1) := nq_d dX7_greatestLeft_0_g (n := 31) rfl
set_option maxRecDepth 100000 in
theorem ggX7_leastWalkLeft_X3_isOfKind : GoodIn wsX7_leastWalkLeft wsX3_isOfKind := goodIn_sub (sub_c (nq_m (n := 8) rfl) (sub_c (nq_m (n := 9) rfl) (sub_c (nq_m (n := 10) rfl) (sub_c (nq_m (n := 11) rfl) (sub_c (nq_m (n := 12) rfl) (sub_c (nq_m (n := 7) rfl) (sub_c (nq_m (n := 13) rfl) (sub_c (nq_m (n := 14) rfl) (sub_c (nq_m (n := 15) rfl) (sub_c (nq_m (n := 16) rfl) (sub_c (nq_m (n := 17) rfl) (sub_c (nq_m (n := 18) rfl) (sub_c (nq_m (n := 19) rfl) (sub_c (nq_m (n := 20) rfl) (sub_c (nq_m (n := 21) rfl) sub_n))))))))))))))) (by decide +kernel)
set_option maxRecDepth 100000 in
theorem gX7_leastWalkLeft_X3_isOfKind : GoodIn wsX7_leastWalkLeft (wsV RX7 62 RX3 yX3_isOfKind wsX3_isOfKind) := goodIn_app (goodIn_sub (sub_c (nq_m (n := 4) rfl) (sub_c (nq_m (n := 5) rfl) (sub_c (nq_m (n := 6) rfl) (sub_c (nq_m (n := 7) rfl) sub_n)))) (by decide +kernel)) ggX7_leastWalkLeft_X3_isOfKind
noncomputable def dX7_leastWalkLeft_0_l : List (Nat × Instr × Nat) := [(0, .iconst (-1), 1), (1, .istore_n 3, 1), (2, .iconst 0, 1), (3, .istore 4, 2), (5, .iload 4, 2), (7, .aload_n 2, 1), (8, .getfield 59, 3), (11, .if_icmp .ge 65, 3), (14, .aload_n 0, 1), (15, .getfield 18, 3), (18, .iload 4, 2), (20, .baload, 1), (21, .ifCond .ne 17, 3), (24, .aload_n 2, 1), (25, .iload 4, 2), (27, .iload_n 1, 1), (28, .invokevirtual 62, 3), (31, .ifCond .eq 7, 3), (34, .iconst 1, 1), (35, .goto 4, 3), (38, .iconst 0, 1), (39, .istore 5, 2), (41, .iload 5, 2), (43, .ifCond .eq 27, 3), (46, .iload_n 3, 1), (47, .iconst (-1), 1), (48, .if_icmp .eq 19, 3), (51, .aload_n 2, 1), (52, .getfield 66, 3), (55, .iload 4, 2), (57, .iaload, 1), (58, .aload_n 2, 1), (59, .getfield 66, 3), (62, .iload_n 3, 1), (63, .iaload, 1), (64, .if_icmp .ge 6, 3), (67, .iload 4, 2), (69, .istore_n 3, 1), (70, .iinc 4 1, 3), (73, .goto (-68), 3)]
set_option maxRecDepth 100000 in
theorem dX7_leastWalkLeft_0_g : dX7_leastWalkLeft_0_l.all (fun x => decide (decode cX7_leastWalkLeft x.1 = .ok x.2)) = true := by decide +kernel
theorem dX7_leastWalkLeft_0 : decode cX7_leastWalkLeft 0 = .ok (.iconst (-1), 1) := nq_d dX7_leastWalkLeft_0_g (n := 0) rfl
theorem dX7_leastWalkLeft_1 : decode cX7_leastWalkLeft 1 = .ok (.istore_n 3, 1) := nq_d dX7_leastWalkLeft_0_g (n := 1) rfl
theorem dX7_leastWalkLeft_2 : decode cX7_leastWalkLeft 2 = .ok (.iconst 0, 1) := nq_d dX7_leastWalkLeft_0_g (n := 2) rfl
theorem dX7_leastWalkLeft_3 : decode cX7_leastWalkLeft 3 = .ok (.istore 4, 2) := nq_d dX7_leastWalkLeft_0_g (n := 3) rfl
theorem dX7_leastWalkLeft_5 : decode cX7_leastWalkLeft 5 = .ok (.iload 4, 2) := nq_d dX7_leastWalkLeft_0_g (n := 4) rfl
theorem dX7_leastWalkLeft_7 : decode cX7_leastWalkLeft 7 = .ok (.aload_n 2, 1) := nq_d dX7_leastWalkLeft_0_g (n := 5) rfl
theorem dX7_leastWalkLeft_8 : decode cX7_leastWalkLeft 8 = .ok (.getfield 59, 3) := nq_d dX7_leastWalkLeft_0_g (n := 6) rfl
theorem dX7_leastWalkLeft_11 : decode cX7_leastWalkLeft 11 = .ok (.if_icmp .ge 65, 3) := nq_d dX7_leastWalkLeft_0_g (n := 7) rfl
theorem dX7_leastWalkLeft_14 : decode cX7_leastWalkLeft 14 = .ok (.aload_n 0, 1) := nq_d dX7_leastWalkLeft_0_g (n := 8) rfl
theorem dX7_leastWalkLeft_15 : decode cX7_leastWalkLeft 15 = .ok (.getfield 18, 3) := nq_d dX7_leastWalkLeft_0_g (n := 9) rfl
theorem dX7_leastWalkLeft_18 : decode cX7_leastWalkLeft 18 = .ok (.iload 4, 2) := nq_d dX7_leastWalkLeft_0_g (n := 10) rfl
theorem dX7_leastWalkLeft_20 : decode cX7_leastWalkLeft 20 = .ok (.baload, 1) := nq_d dX7_leastWalkLeft_0_g (n := 11) rfl
theorem dX7_leastWalkLeft_21 : decode cX7_leastWalkLeft 21 = .ok (.ifCond .ne 17, 3) := nq_d dX7_leastWalkLeft_0_g (n := 12) rfl
theorem dX7_leastWalkLeft_24 : decode cX7_leastWalkLeft 24 = .ok (.aload_n 2, 1) := nq_d dX7_leastWalkLeft_0_g (n := 13) rfl
theorem dX7_leastWalkLeft_25 : decode cX7_leastWalkLeft 25 = .ok (.iload 4, 2) := nq_d dX7_leastWalkLeft_0_g (n := 14) rfl
theorem dX7_leastWalkLeft_27 : decode cX7_leastWalkLeft 27 = .ok (.iload_n 1, 1) := nq_d dX7_leastWalkLeft_0_g (n := 15) rfl
theorem dX7_leastWalkLeft_28 : decode cX7_leastWalkLeft 28 = .ok (.invokevirtual 62, 3) := nq_d dX7_leastWalkLeft_0_g (n := 16) rfl
theorem dX7_leastWalkLeft_31 : decode cX7_leastWalkLeft 31 = .ok (.ifCond .eq 7, 3) := nq_d dX7_leastWalkLeft_0_g (n := 17) rfl
theorem dX7_leastWalkLeft_34 : decode cX7_leastWalkLeft 34 = .ok (.iconst 1, 1) := nq_d dX7_leastWalkLeft_0_g (n := 18) rfl
theorem dX7_leastWalkLeft_35 : decode cX7_leastWalkLeft 35 = .ok (.goto 4, 3) := nq_d dX7_leastWalkLeft_0_g (n := 19) rfl
theorem dX7_leastWalkLeft_38 : decode cX7_leastWalkLeft 38 = .ok (.iconst 0, 1) := nq_d dX7_leastWalkLeft_0_g (n := 20) rfl
theorem dX7_leastWalkLeft_39 : decode cX7_leastWalkLeft 39 = .ok (.istore 5, 2) := nq_d dX7_leastWalkLeft_0_g (n := 21) rfl
theorem dX7_leastWalkLeft_41 : decode cX7_leastWalkLeft 41 = .ok (.iload 5, 2) := nq_d dX7_leastWalkLeft_0_g (n := 22) rfl
theorem dX7_leastWalkLeft_43 : decode cX7_leastWalkLeft 43 = .ok (.ifCond .eq 27, 3) := nq_d dX7_leastWalkLeft_0_g (n := 23) rfl
theorem dX7_leastWalkLeft_46 : decode cX7_leastWalkLeft 46 = .ok (.iload_n 3, 1) := nq_d dX7_leastWalkLeft_0_g (n := 24) rfl
theorem dX7_leastWalkLeft_47 : decode cX7_leastWalkLeft 47 = .ok (.iconst (-1), 1) := nq_d dX7_leastWalkLeft_0_g (n := 25) rfl
theorem dX7_leastWalkLeft_48 : decode cX7_leastWalkLeft 48 = .ok (.if_icmp .eq 19, 3) := nq_d dX7_leastWalkLeft_0_g (n := 26) rfl
theorem dX7_leastWalkLeft_51 : decode cX7_leastWalkLeft 51 = .ok (.aload_n 2, 1) := nq_d dX7_leastWalkLeft_0_g (n := 27) rfl
theorem dX7_leastWalkLeft_52 : decode cX7_leastWalkLeft 52 = .ok (.getfield 66, 3) := nq_d dX7_leastWalkLeft_0_g (n := 28) rfl
theorem dX7_leastWalkLeft_55 : decode cX7_leastWalkLeft 55 = .ok (.iload 4, 2) := nq_d dX7_leastWalkLeft_0_g (n := 29) rfl
theorem dX7_leastWalkLeft_57 : decode cX7_leastWalkLeft 57 = .ok (.iaload, 1) := nq_d dX7_leastWalkLeft_0_g (n := 30) rfl
theorem dX7_leastWalkLeft_58 : decode cX7_leastWalkLeft 58 = .ok (.aload_n 2, 1) := nq_d dX7_leastWalkLeft_0_g (n := 31) rfl
theorem dX7_leastWalkLeft_59 : decode cX7_leastWalkLeft 59 = .ok (.getfield 66, 3) := nq_d dX7_leastWalkLeft_0_g (n := 32) rfl
theorem dX7_leastWalkLeft_62 : decode cX7_leastWalkLeft 62 = .ok (.iload_n 3, 1) := nq_d dX7_leastWalkLeft_0_g (n := 33) rfl
theorem dX7_leastWalkLeft_63 : decode cX7_leastWalkLeft 63 = .ok (.iaload, 1) := nq_d dX7_leastWalkLeft_0_g (n := 34) rfl
theorem dX7_leastWalkLeft_64 : decode cX7_leastWalkLeft 64 = .ok (.if_icmp .ge 6, 3) := nq_d dX7_leastWalkLeft_0_g (n := 35) rfl
theorem dX7_leastWalkLeft_67 : decode cX7_leastWalkLeft 67 = .ok (.iload 4, 2) := nq_d dX7_leastWalkLeft_0_g (n := 36) rfl
theorem dX7_leastWalkLeft_69 : decode cX7_leastWalkLeft 69 = .ok (.istore_n 3, 1) := nq_d dX7_leastWalkLeft_0_g (n := 37) rfl
theorem dX7_leastWalkLeft_70 : decode cX7_leastWalkLeft 70 = .ok (.iinc 4 1, 3) := nq_d dX7_leastWalkLeft_0_g (n := 38) rfl
theorem dX7_leastWalkLeft_73 : decode cX7_leastWalkLeft 73 = .ok (.goto (-68), 3) := nq_d dX7_leastWalkLeft_0_g (n := 39) rfl
noncomputable def dX7_leastWalkLeft_76_l : List (Nat × Instr × Nat) := [(76, .iload_n 3, 1), (77, .ireturn, 1)]
set_option maxRecDepth 100000 in
theorem dX7_leastWalkLeft_76_g : dX7_leastWalkLeft_76_l.all (fun x => decide (decode cX7_leastWalkLeft x.1 = .ok x.2)) = true := by decide +kernel
theorem dX7_leastWalkLeft_76 : decode cX7_leastWalkLeft 76 = .ok (.iload_n 3, 1) := nq_d dX7_leastWalkLeft_76_g (n := 0) rfl
theorem dX7_leastWalkLeft_77 : decode cX7_leastWalkLeft 77 = .ok (.ireturn, 1) := nq_d dX7_leastWalkLeft_76_g (n := 1) rfl
set_option maxRecDepth 100000 in
theorem ggX8_init_X3_init : GoodIn wsX8_init wsX3_init := goodIn_sub (sub_c (nq_m (n := 17) rfl) (sub_c (nq_m (n := 18) rfl) (sub_c (nq_m (n := 2) rfl) (sub_c (nq_m (n := 3) rfl) (sub_c (nq_m (n := 19) rfl) (sub_c (nq_m (n := 20) rfl) (sub_c (nq_m (n := 21) rfl) (sub_c (nq_m (n := 22) rfl) (sub_c (nq_m (n := 23) rfl) (sub_c (nq_m (n := 24) rfl) (sub_c (nq_m (n := 25) rfl) (sub_c (nq_m (n := 26) rfl) (sub_c (nq_m (n := 35) rfl) (sub_c (nq_m (n := 36) rfl) (sub_c (nq_m (n := 37) rfl) (sub_c (nq_m (n := 38) rfl) (sub_c (nq_m (n := 39) rfl) (sub_c (nq_m (n := 40) rfl) (sub_c (nq_m (n := 41) rfl) sub_n))))))))))))))))))) (by decide +kernel)
set_option maxRecDepth 100000 in
theorem gX8_init_X3_init_n36 : GoodIn wsX8_init (wsX3_init) := ggX8_init_X3_init
noncomputable def dX8_init_0_l : List (Nat × Instr × Nat) := [(0, .aload_n 0, 1), (1, .invokespecial 3, 3), (4, .aload_n 0, 1), (5, .sipush 240, 3), (8, .newarray .byte, 2), (10, .putfield 9, 3), (13, .aload_n 0, 1), (14, .iconst 0, 1), (15, .putfield 15, 3), (18, .aload_n 0, 1), (19, .iconst (-1), 1), (20, .putfield 19, 3), (23, .aload_n 0, 1), (24, .iconst 0, 1), (25, .putfield 22, 3), (28, .aload_n 0, 1), (29, .iconst 0, 1), (30, .putfield 25, 3), (33, .aload_n 0, 1), (34, .iconst 0, 1), (35, .putfield 28, 3), (38, .aload_n 0, 1), (39, .iconst 0, 1), (40, .putfield 31, 3), (43, .aload_n 0, 1), (44, .new 34, 3), (47, .dup, 1), (48, .invokespecial 36, 3), (51, .putfield 37, 3), (54, .return_, 1)]
set_option maxRecDepth 100000 in
theorem dX8_init_0_g : dX8_init_0_l.all (fun x => decide (decode cX8_init x.1 = .ok x.2)) = true := by decide +kernel
theorem dX8_init_0 : decode cX8_init 0 = .ok (.aload_n 0, 1) := nq_d dX8_init_0_g (n := 0) rfl
theorem dX8_init_1 : decode cX8_init 1 = .ok (.invokespecial 3, 3) := nq_d dX8_init_0_g (n := 1) rfl
theorem dX8_init_4 : decode cX8_init 4 = .ok (.aload_n 0, 1) := nq_d dX8_init_0_g (n := 2) rfl
theorem dX8_init_5 : decode cX8_init 5 = .ok (.sipush 240, 3) := nq_d dX8_init_0_g (n := 3) rfl
theorem dX8_init_8 : decode cX8_init 8 = .ok (.newarray .byte, 2) := nq_d dX8_init_0_g (n := 4) rfl
theorem dX8_init_10 : decode cX8_init 10 = .ok (.putfield 9, 3) := nq_d dX8_init_0_g (n := 5) rfl
theorem dX8_init_13 : decode cX8_init 13 = .ok (.aload_n 0, 1) := nq_d dX8_init_0_g (n := 6) rfl
theorem dX8_init_14 : decode cX8_init 14 = .ok (.iconst 0, 1) := nq_d dX8_init_0_g (n := 7) rfl
theorem dX8_init_15 : decode cX8_init 15 = .ok (.putfield 15, 3) := nq_d dX8_init_0_g (n := 8) rfl
theorem dX8_init_18 : decode cX8_init 18 = .ok (.aload_n 0, 1) := nq_d dX8_init_0_g (n := 9) rfl
theorem dX8_init_19 : decode cX8_init 19 = .ok (.iconst (-1), 1) := nq_d dX8_init_0_g (n := 10) rfl
theorem dX8_init_20 : decode cX8_init 20 = .ok (.putfield 19, 3) := nq_d dX8_init_0_g (n := 11) rfl
theorem dX8_init_23 : decode cX8_init 23 = .ok (.aload_n 0, 1) := nq_d dX8_init_0_g (n := 12) rfl
theorem dX8_init_24 : decode cX8_init 24 = .ok (.iconst 0, 1) := nq_d dX8_init_0_g (n := 13) rfl
theorem dX8_init_25 : decode cX8_init 25 = .ok (.putfield 22, 3) := nq_d dX8_init_0_g (n := 14) rfl
theorem dX8_init_28 : decode cX8_init 28 = .ok (.aload_n 0, 1) := nq_d dX8_init_0_g (n := 15) rfl
theorem dX8_init_29 : decode cX8_init 29 = .ok (.iconst 0, 1) := nq_d dX8_init_0_g (n := 16) rfl
theorem dX8_init_30 : decode cX8_init 30 = .ok (.putfield 25, 3) := nq_d dX8_init_0_g (n := 17) rfl
theorem dX8_init_33 : decode cX8_init 33 = .ok (.aload_n 0, 1) := nq_d dX8_init_0_g (n := 18) rfl
theorem dX8_init_34 : decode cX8_init 34 = .ok (.iconst 0, 1) := nq_d dX8_init_0_g (n := 19) rfl
theorem dX8_init_35 : decode cX8_init 35 = .ok (.putfield 28, 3) := nq_d dX8_init_0_g (n := 20) rfl
theorem dX8_init_38 : decode cX8_init 38 = .ok (.aload_n 0, 1) := nq_d dX8_init_0_g (n := 21) rfl
theorem dX8_init_39 : decode cX8_init 39 = .ok (.iconst 0, 1) := nq_d dX8_init_0_g (n := 22) rfl
theorem dX8_init_40 : decode cX8_init 40 = .ok (.putfield 31, 3) := nq_d dX8_init_0_g (n := 23) rfl
theorem dX8_init_43 : decode cX8_init 43 = .ok (.aload_n 0, 1) := nq_d dX8_init_0_g (n := 24) rfl
theorem dX8_init_44 : decode cX8_init 44 = .ok (.new 34, 3) := nq_d dX8_init_0_g (n := 25) rfl
theorem dX8_init_47 : decode cX8_init 47 = .ok (.dup, 1) := nq_d dX8_init_0_g (n := 26) rfl
theorem dX8_init_48 : decode cX8_init 48 = .ok (.invokespecial 36, 3) := nq_d dX8_init_0_g (n := 27) rfl
theorem dX8_init_51 : decode cX8_init 51 = .ok (.putfield 37, 3) := nq_d dX8_init_0_g (n := 28) rfl
theorem dX8_init_54 : decode cX8_init 54 = .ok (.return_, 1) := nq_d dX8_init_0_g (n := 29) rfl
noncomputable def dX8_append_0_l : List (Nat × Instr × Nat) := [(0, .iload_n 1, 1), (1, .iconst 1, 1), (2, .isub, 1), (3, .istore 4, 2), (5, .iload 4, 2), (7, .ifCond .lt 47, 3), (10, .aload_n 0, 1), (11, .getfield 15, 3), (14, .sipush 240, 3), (17, .if_icmp .ge 37, 3), (20, .aload_n 0, 1), (21, .getfield 9, 3), (24, .aload_n 0, 1), (25, .getfield 15, 3), (28, .lload_n 2, 1), (29, .bipush 8, 2), (31, .iload 4, 2), (33, .imul, 1), (34, .lushr, 1), (35, .l2i, 1), (36, .i2b, 1), (37, .bastore, 1), (38, .aload_n 0, 1), (39, .dup, 1), (40, .getfield 15, 3), (43, .iconst 1, 1), (44, .iadd, 1), (45, .putfield 15, 3), (48, .iinc 4 (-1), 3), (51, .goto (-46), 3), (54, .aload_n 0, 1), (55, .getfield 15, 3), (58, .ireturn, 1)]
set_option maxRecDepth 100000 in
theorem dX8_append_0_g : dX8_append_0_l.all (fun x => decide (decode cX8_append x.1 = .ok x.2)) = true := by decide +kernel
theorem dX8_append_0 : decode cX8_append 0 = .ok (.iload_n 1, 1) := nq_d dX8_append_0_g (n := 0) rfl
theorem dX8_append_1 : decode cX8_append 1 = .ok (.iconst 1, 1) := nq_d dX8_append_0_g (n := 1) rfl
theorem dX8_append_2 : decode cX8_append 2 = .ok (.isub, 1) := nq_d dX8_append_0_g (n := 2) rfl
theorem dX8_append_3 : decode cX8_append 3 = .ok (.istore 4, 2) := nq_d dX8_append_0_g (n := 3) rfl
theorem dX8_append_5 : decode cX8_append 5 = .ok (.iload 4, 2) := nq_d dX8_append_0_g (n := 4) rfl
theorem dX8_append_7 : decode cX8_append 7 = .ok (.ifCond .lt 47, 3) := nq_d dX8_append_0_g (n := 5) rfl
theorem dX8_append_10 : decode cX8_append 10 = .ok (.aload_n 0, 1) := nq_d dX8_append_0_g (n := 6) rfl
theorem dX8_append_11 : decode cX8_append 11 = .ok (.getfield 15, 3) := nq_d dX8_append_0_g (n := 7) rfl
theorem dX8_append_14 : decode cX8_append 14 = .ok (.sipush 240, 3) := nq_d dX8_append_0_g (n := 8) rfl
theorem dX8_append_17 : decode cX8_append 17 = .ok (.if_icmp .ge 37, 3) := nq_d dX8_append_0_g (n := 9) rfl
theorem dX8_append_20 : decode cX8_append 20 = .ok (.aload_n 0, 1) := nq_d dX8_append_0_g (n := 10) rfl
theorem dX8_append_21 : decode cX8_append 21 = .ok (.getfield 9, 3) := nq_d dX8_append_0_g (n := 11) rfl
theorem dX8_append_24 : decode cX8_append 24 = .ok (.aload_n 0, 1) := nq_d dX8_append_0_g (n := 12) rfl
theorem dX8_append_25 : decode cX8_append 25 = .ok (.getfield 15, 3) := nq_d dX8_append_0_g (n := 13) rfl
theorem dX8_append_28 : decode cX8_append 28 = .ok (.lload_n 2, 1) := nq_d dX8_append_0_g (n := 14) rfl
theorem dX8_append_29 : decode cX8_append 29 = .ok (.bipush 8, 2) := nq_d dX8_append_0_g (n := 15) rfl
theorem dX8_append_31 : decode cX8_append 31 = .ok (.iload 4, 2) := nq_d dX8_append_0_g (n := 16) rfl
theorem dX8_append_33 : decode cX8_append 33 = .ok (.imul, 1) := nq_d dX8_append_0_g (n := 17) rfl
theorem dX8_append_34 : decode cX8_append 34 = .ok (.lushr, 1) := nq_d dX8_append_0_g (n := 18) rfl
theorem dX8_append_35 : decode cX8_append 35 = .ok (.l2i, 1) := nq_d dX8_append_0_g (n := 19) rfl
theorem dX8_append_36 : decode cX8_append 36 = .ok (.i2b, 1) := nq_d dX8_append_0_g (n := 20) rfl
theorem dX8_append_37 : decode cX8_append 37 = .ok (.bastore, 1) := nq_d dX8_append_0_g (n := 21) rfl
theorem dX8_append_38 : decode cX8_append 38 = .ok (.aload_n 0, 1) := nq_d dX8_append_0_g (n := 22) rfl
theorem dX8_append_39 : decode cX8_append 39 = .ok (.dup, 1) := nq_d dX8_append_0_g (n := 23) rfl
theorem dX8_append_40 : decode cX8_append 40 = .ok (.getfield 15, 3) := nq_d dX8_append_0_g (n := 24) rfl
theorem dX8_append_43 : decode cX8_append 43 = .ok (.iconst 1, 1) := nq_d dX8_append_0_g (n := 25) rfl
theorem dX8_append_44 : decode cX8_append 44 = .ok (.iadd, 1) := nq_d dX8_append_0_g (n := 26) rfl
theorem dX8_append_45 : decode cX8_append 45 = .ok (.putfield 15, 3) := nq_d dX8_append_0_g (n := 27) rfl
theorem dX8_append_48 : decode cX8_append 48 = .ok (.iinc 4 (-1), 3) := nq_d dX8_append_0_g (n := 28) rfl
theorem dX8_append_51 : decode cX8_append 51 = .ok (.goto (-46), 3) := nq_d dX8_append_0_g (n := 29) rfl
theorem dX8_append_54 : decode cX8_append 54 = .ok (.aload_n 0, 1) := nq_d dX8_append_0_g (n := 30) rfl
theorem dX8_append_55 : decode cX8_append 55 = .ok (.getfield 15, 3) := nq_d dX8_append_0_g (n := 31) rfl
theorem dX8_append_58 : decode cX8_append 58 = .ok (.ireturn, 1) := nq_d dX8_append_0_g (n := 32) rfl
set_option maxRecDepth 100000 in
theorem ggX8_read_X3_clear : GoodIn wsX8_read wsX3_clear := goodIn_sub (sub_c (nq_m (n := 11) rfl) (sub_c (nq_m (n := 12) rfl) (sub_c (nq_m (n := 13) rfl) (sub_c (nq_m (n := 14) rfl) (sub_c (nq_m (n := 15) rfl) (sub_c (nq_m (n := 16) rfl) (sub_c (nq_m (n := 17) rfl) (sub_c (nq_m (n := 10) rfl) (sub_c (nq_m (n := 18) rfl) (sub_c (nq_m (n := 19) rfl) (sub_c (nq_m (n := 20) rfl) (sub_c (nq_m (n := 21) rfl) (sub_c (nq_m (n := 22) rfl) (sub_c (nq_m (n := 23) rfl) (sub_c (nq_m (n := 24) rfl) (sub_c (nq_m (n := 25) rfl) (sub_c (nq_m (n := 26) rfl) (sub_c (nq_m (n := 27) rfl) (sub_c (nq_m (n := 151) rfl) (sub_c (nq_m (n := 152) rfl) (sub_c (nq_m (n := 153) rfl) (sub_c (nq_m (n := 154) rfl) (sub_c (nq_m (n := 155) rfl) (sub_c (nq_m (n := 156) rfl) (sub_c (nq_m (n := 157) rfl) sub_n))))))))))))))))))))))))) (by decide +kernel)
set_option maxRecDepth 100000 in
theorem gX8_read_X3_clear : GoodIn wsX8_read (wsV RX8 41 RX3 yX3_clear wsX3_clear) := goodIn_app (goodIn_sub (sub_c (nq_m (n := 7) rfl) (sub_c (nq_m (n := 8) rfl) (sub_c (nq_m (n := 9) rfl) (sub_c (nq_m (n := 10) rfl) sub_n)))) (by decide +kernel)) ggX8_read_X3_clear
set_option maxRecDepth 100000 in
theorem ggX8_read_X8_skipBlanks : GoodIn wsX8_read wsX8_skipBlanks := goodIn_sub (sub_c (nq_m (n := 32) rfl) (sub_c (nq_m (n := 4) rfl) (sub_c (nq_m (n := 6) rfl) (sub_c (nq_m (n := 33) rfl) (sub_c (nq_m (n := 34) rfl) (sub_c (nq_m (n := 35) rfl) (sub_c (nq_m (n := 31) rfl) (sub_c (nq_m (n := 36) rfl) (sub_c (nq_m (n := 37) rfl) (sub_c (nq_m (n := 143) rfl) (sub_c (nq_m (n := 144) rfl) (sub_c (nq_m (n := 145) rfl) (sub_c (nq_m (n := 146) rfl) (sub_c (nq_m (n := 147) rfl) (sub_c (nq_m (n := 148) rfl) (sub_c (nq_m (n := 149) rfl) (sub_c (nq_m (n := 150) rfl) sub_n))))))))))))))))) (by decide +kernel)
set_option maxRecDepth 100000 in
theorem gX8_read_X8_skipBlanks : GoodIn wsX8_read (wsV RX8 44 RX8 yX8_skipBlanks wsX8_skipBlanks) := goodIn_app (goodIn_sub (sub_c (nq_m (n := 28) rfl) (sub_c (nq_m (n := 29) rfl) (sub_c (nq_m (n := 30) rfl) (sub_c (nq_m (n := 31) rfl) sub_n)))) (by decide +kernel)) ggX8_read_X8_skipBlanks
set_option maxRecDepth 100000 in
theorem ggX8_read_X8_readClause : GoodIn wsX8_read wsX8_readClause := goodIn_sub (sub_c (nq_m (n := 41) rfl) (sub_c (nq_m (n := 4) rfl) (sub_c (nq_m (n := 1) rfl) (sub_c (nq_m (n := 42) rfl) (sub_c (nq_m (n := 43) rfl) (sub_c (nq_m (n := 44) rfl) (sub_c (nq_m (n := 45) rfl) (sub_c (nq_m (n := 46) rfl) (sub_c (nq_m (n := 31) rfl) (sub_c (nq_m (n := 47) rfl) (sub_c (nq_m (n := 48) rfl) (sub_c (nq_m (n := 49) rfl) (sub_c (nq_m (n := 50) rfl) (sub_c (nq_m (n := 51) rfl) (sub_c (nq_m (n := 52) rfl) (sub_c (nq_m (n := 53) rfl) (sub_c (nq_m (n := 54) rfl) (sub_c (nq_m (n := 55) rfl) (sub_c (nq_m (n := 56) rfl) (sub_c (nq_m (n := 57) rfl) (sub_c (nq_m (n := 58) rfl) (sub_c (nq_m (n := 59) rfl) (sub_c (nq_m (n := 33) rfl) (sub_c (nq_m (n := 34) rfl) (sub_c (nq_m (n := 35) rfl) (sub_c (nq_m (n := 36) rfl) (sub_c (nq_m (n := 6) rfl) (sub_c (nq_m (n := 37) rfl) (sub_c (nq_m (n := 60) rfl) (sub_c (nq_m (n := 61) rfl) (sub_c (nq_m (n := 62) rfl) (sub_c (nq_m (n := 63) rfl) (sub_c (nq_m (n := 64) rfl) (sub_c (nq_m (n := 65) rfl) (sub_c (nq_m (n := 66) rfl) (sub_c (nq_m (n := 67) rfl) (sub_c (nq_m (n := 68) rfl) (sub_c (nq_m (n := 69) rfl) (sub_c (nq_m (n := 70) rfl) (sub_c (nq_m (n := 71) rfl) (sub_c (nq_m (n := 72) rfl) (sub_c (nq_m (n := 73) rfl) (sub_c (nq_m (n := 74) rfl) (sub_c (nq_m (n := 75) rfl) (sub_c (nq_m (n := 76) rfl) (sub_c (nq_m (n := 77) rfl) (sub_c (nq_m (n := 78) rfl) (sub_c (nq_m (n := 79) rfl) (sub_c (nq_m (n := 80) rfl) (sub_c (nq_m (n := 81) rfl) (sub_c (nq_m (n := 82) rfl) (sub_c (nq_m (n := 83) rfl) (sub_c (nq_m (n := 84) rfl) (sub_c (nq_m (n := 85) rfl) (sub_c (nq_m (n := 86) rfl) (sub_c (nq_m (n := 87) rfl) (sub_c (nq_m (n := 88) rfl) (sub_c (nq_m (n := 89) rfl) (sub_c (nq_m (n := 90) rfl) (sub_c (nq_m (n := 91) rfl) (sub_c (nq_m (n := 92) rfl) (sub_c (nq_m (n := 93) rfl) (sub_c (nq_m (n := 94) rfl) (sub_c (nq_m (n := 95) rfl) (sub_c (nq_m (n := 96) rfl) (sub_c (nq_m (n := 97) rfl) (sub_c (nq_m (n := 98) rfl) (sub_c (nq_m (n := 99) rfl) (sub_c (nq_m (n := 100) rfl) (sub_c (nq_m (n := 101) rfl) (sub_c (nq_m (n := 102) rfl) (sub_c (nq_m (n := 2) rfl) (sub_c (nq_m (n := 103) rfl) (sub_c (nq_m (n := 104) rfl) (sub_c (nq_m (n := 105) rfl) (sub_c (nq_m (n := 106) rfl) (sub_c (nq_m (n := 28) rfl) (sub_c (nq_m (n := 29) rfl) (sub_c (nq_m (n := 30) rfl) (sub_c (nq_m (n := 32) rfl) (sub_c (nq_m (n := 107) rfl) (sub_c (nq_m (n := 108) rfl) (sub_c (nq_m (n := 109) rfl) (sub_c (nq_m (n := 110) rfl) (sub_c (nq_m (n := 3) rfl) (sub_c (nq_m (n := 111) rfl) (sub_c (nq_m (n := 112) rfl) (sub_c (nq_m (n := 113) rfl) (sub_c (nq_m (n := 114) rfl) (sub_c (nq_m (n := 115) rfl) (sub_c (nq_m (n := 116) rfl) (sub_c (nq_m (n := 117) rfl) (sub_c (nq_m (n := 118) rfl) (sub_c (nq_m (n := 25) rfl) (sub_c (nq_m (n := 26) rfl) (sub_c (nq_m (n := 27) rfl) (sub_c (nq_m (n := 119) rfl) (sub_c (nq_m (n := 120) rfl) (sub_c (nq_m (n := 121) rfl) (sub_c (nq_m (n := 122) rfl) (sub_c (nq_m (n := 123) rfl) (sub_c (nq_m (n := 124) rfl) (sub_c (nq_m (n := 125) rfl) (sub_c (nq_m (n := 10) rfl) (sub_c (nq_m (n := 126) rfl) (sub_c (nq_m (n := 12) rfl) (sub_c (nq_m (n := 127) rfl) (sub_c (nq_m (n := 128) rfl) (sub_c (nq_m (n := 129) rfl) (sub_c (nq_m (n := 130) rfl) (sub_c (nq_m (n := 131) rfl) (sub_c (nq_m (n := 132) rfl) (sub_c (nq_m (n := 133) rfl) (sub_c (nq_m (n := 134) rfl) (sub_c (nq_m (n := 135) rfl) (sub_c (nq_m (n := 136) rfl) (sub_c (nq_m (n := 5) rfl) (sub_c (nq_m (n := 137) rfl) (sub_c (nq_m (n := 21) rfl) (sub_c (nq_m (n := 22) rfl) (sub_c (nq_m (n := 23) rfl) (sub_c (nq_m (n := 24) rfl) (sub_c (nq_m (n := 138) rfl) (sub_c (nq_m (n := 139) rfl) (sub_c (nq_m (n := 140) rfl) (sub_c (nq_m (n := 141) rfl) (sub_c (nq_m (n := 142) rfl) (sub_c (nq_m (n := 16) rfl) (sub_c (nq_m (n := 17) rfl) (sub_c (nq_m (n := 18) rfl) (sub_c (nq_m (n := 19) rfl) (sub_c (nq_m (n := 143) rfl) (sub_c (nq_m (n := 144) rfl) (sub_c (nq_m (n := 145) rfl) (sub_c (nq_m (n := 146) rfl) (sub_c (nq_m (n := 147) rfl) (sub_c (nq_m (n := 148) rfl) (sub_c (nq_m (n := 149) rfl) (sub_c (nq_m (n := 150) rfl) (sub_c (nq_m (n := 151) rfl) (sub_c (nq_m (n := 152) rfl) (sub_c (nq_m (n := 153) rfl) (sub_c (nq_m (n := 154) rfl) (sub_c (nq_m (n := 155) rfl) (sub_c (nq_m (n := 156) rfl) (sub_c (nq_m (n := 157) rfl) sub_n)))))))))))))))))))))))))))))))))))))))))))))))))))))))))))))))))))))))))))))))))))))))))))))))))))))))))))))))))))))))))))))))))))))))))))))))))) (by decide +kernel)
set_option maxRecDepth 100000 in
theorem gX8_read_X8_readClause : GoodIn wsX8_read (wsV RX8 47 RX8 yX8_readClause wsX8_readClause) := goodIn_app (goodIn_sub (sub_c (nq_m (n := 38) rfl) (sub_c (nq_m (n := 39) rfl) (sub_c (nq_m (n := 40) rfl) (sub_c (nq_m (n := 31) rfl) sub_n)))) (by decide +kernel)) ggX8_read_X8_readClause
noncomputable def dX8_read_0_l : List (Nat × Instr × Nat) := [(0, .aload_n 0, 1), (1, .getfield 37, 3), (4, .invokevirtual 41, 3), (7, .aload_n 0, 1), (8, .iconst 0, 1), (9, .putfield 22, 3), (12, .aload_n 0, 1), (13, .iconst (-1), 1), (14, .putfield 19, 3), (17, .aload_n 0, 1), (18, .iconst 0, 1), (19, .putfield 25, 3), (22, .aload_n 0, 1), (23, .iconst 0, 1), (24, .putfield 31, 3), (27, .aload_n 0, 1), (28, .invokevirtual 44, 3), (31, .iconst 0, 1), (32, .istore_n 1, 1), (33, .iload_n 1, 1), (34, .sipush 240, 3), (37, .if_icmp .ge 35, 3), (40, .aload_n 0, 1), (41, .getfield 22, 3), (44, .ifCond .ne 28, 3), (47, .aload_n 0, 1), (48, .getfield 25, 3), (51, .aload_n 0, 1), (52, .getfield 15, 3), (55, .if_icmp .ge 17, 3), (58, .aload_n 0, 1), (59, .invokevirtual 47, 3), (62, .aload_n 0, 1), (63, .invokevirtual 44, 3), (66, .iinc 1 1, 3), (69, .goto (-36), 3), (72, .aload_n 0, 1), (73, .iconst 0, 1), (74, .putfield 15, 3), (77, .aload_n 0, 1)]
set_option maxRecDepth 100000 in
theorem dX8_read_0_g : dX8_read_0_l.all (fun x => decide (decode cX8_read x.1 = .ok x.2)) = true := by decide +kernel
theorem dX8_read_0 : decode cX8_read 0 = .ok (.aload_n 0, 1) := nq_d dX8_read_0_g (n := 0) rfl
theorem dX8_read_1 : decode cX8_read 1 = .ok (.getfield 37, 3) := nq_d dX8_read_0_g (n := 1) rfl
theorem dX8_read_4 : decode cX8_read 4 = .ok (.invokevirtual 41, 3) := nq_d dX8_read_0_g (n := 2) rfl
theorem dX8_read_7 : decode cX8_read 7 = .ok (.aload_n 0, 1) := nq_d dX8_read_0_g (n := 3) rfl
theorem dX8_read_8 : decode cX8_read 8 = .ok (.iconst 0, 1) := nq_d dX8_read_0_g (n := 4) rfl
theorem dX8_read_9 : decode cX8_read 9 = .ok (.putfield 22, 3) := nq_d dX8_read_0_g (n := 5) rfl
theorem dX8_read_12 : decode cX8_read 12 = .ok (.aload_n 0, 1) := nq_d dX8_read_0_g (n := 6) rfl
theorem dX8_read_13 : decode cX8_read 13 = .ok (.iconst (-1), 1) := nq_d dX8_read_0_g (n := 7) rfl
theorem dX8_read_14 : decode cX8_read 14 = .ok (.putfield 19, 3) := nq_d dX8_read_0_g (n := 8) rfl
theorem dX8_read_17 : decode cX8_read 17 = .ok (.aload_n 0, 1) := nq_d dX8_read_0_g (n := 9) rfl
theorem dX8_read_18 : decode cX8_read 18 = .ok (.iconst 0, 1) := nq_d dX8_read_0_g (n := 10) rfl
theorem dX8_read_19 : decode cX8_read 19 = .ok (.putfield 25, 3) := nq_d dX8_read_0_g (n := 11) rfl
theorem dX8_read_22 : decode cX8_read 22 = .ok (.aload_n 0, 1) := nq_d dX8_read_0_g (n := 12) rfl
theorem dX8_read_23 : decode cX8_read 23 = .ok (.iconst 0, 1) := nq_d dX8_read_0_g (n := 13) rfl
theorem dX8_read_24 : decode cX8_read 24 = .ok (.putfield 31, 3) := nq_d dX8_read_0_g (n := 14) rfl
theorem dX8_read_27 : decode cX8_read 27 = .ok (.aload_n 0, 1) := nq_d dX8_read_0_g (n := 15) rfl
theorem dX8_read_28 : decode cX8_read 28 = .ok (.invokevirtual 44, 3) := nq_d dX8_read_0_g (n := 16) rfl
theorem dX8_read_31 : decode cX8_read 31 = .ok (.iconst 0, 1) := nq_d dX8_read_0_g (n := 17) rfl
theorem dX8_read_32 : decode cX8_read 32 = .ok (.istore_n 1, 1) := nq_d dX8_read_0_g (n := 18) rfl
theorem dX8_read_33 : decode cX8_read 33 = .ok (.iload_n 1, 1) := nq_d dX8_read_0_g (n := 19) rfl
theorem dX8_read_34 : decode cX8_read 34 = .ok (.sipush 240, 3) := nq_d dX8_read_0_g (n := 20) rfl
theorem dX8_read_37 : decode cX8_read 37 = .ok (.if_icmp .ge 35, 3) := nq_d dX8_read_0_g (n := 21) rfl
theorem dX8_read_40 : decode cX8_read 40 = .ok (.aload_n 0, 1) := nq_d dX8_read_0_g (n := 22) rfl
theorem dX8_read_41 : decode cX8_read 41 = .ok (.getfield 22, 3) := nq_d dX8_read_0_g (n := 23) rfl
theorem dX8_read_44 : decode cX8_read 44 = .ok (.ifCond .ne 28, 3) := nq_d dX8_read_0_g (n := 24) rfl
theorem dX8_read_47 : decode cX8_read 47 = .ok (.aload_n 0, 1) := nq_d dX8_read_0_g (n := 25) rfl
theorem dX8_read_48 : decode cX8_read 48 = .ok (.getfield 25, 3) := nq_d dX8_read_0_g (n := 26) rfl
theorem dX8_read_51 : decode cX8_read 51 = .ok (.aload_n 0, 1) := nq_d dX8_read_0_g (n := 27) rfl
theorem dX8_read_52 : decode cX8_read 52 = .ok (.getfield 15, 3) := nq_d dX8_read_0_g (n := 28) rfl
theorem dX8_read_55 : decode cX8_read 55 = .ok (.if_icmp .ge 17, 3) := nq_d dX8_read_0_g (n := 29) rfl
theorem dX8_read_58 : decode cX8_read 58 = .ok (.aload_n 0, 1) := nq_d dX8_read_0_g (n := 30) rfl
theorem dX8_read_59 : decode cX8_read 59 = .ok (.invokevirtual 47, 3) := nq_d dX8_read_0_g (n := 31) rfl
theorem dX8_read_62 : decode cX8_read 62 = .ok (.aload_n 0, 1) := nq_d dX8_read_0_g (n := 32) rfl
theorem dX8_read_63 : decode cX8_read 63 = .ok (.invokevirtual 44, 3) := nq_d dX8_read_0_g (n := 33) rfl
theorem dX8_read_66 : decode cX8_read 66 = .ok (.iinc 1 1, 3) := nq_d dX8_read_0_g (n := 34) rfl
theorem dX8_read_69 : decode cX8_read 69 = .ok (.goto (-36), 3) := nq_d dX8_read_0_g (n := 35) rfl
theorem dX8_read_72 : decode cX8_read 72 = .ok (.aload_n 0, 1) := nq_d dX8_read_0_g (n := 36) rfl
theorem dX8_read_73 : decode cX8_read 73 = .ok (.iconst 0, 1) := nq_d dX8_read_0_g (n := 37) rfl
theorem dX8_read_74 : decode cX8_read 74 = .ok (.putfield 15, 3) := nq_d dX8_read_0_g (n := 38) rfl
theorem dX8_read_77 : decode cX8_read 77 = .ok (.aload_n 0, 1) := nq_d dX8_read_0_g (n := 39) rfl
noncomputable def dX8_read_78_l : List (Nat × Instr × Nat) := [(78, .getfield 22, 3), (81, .ireturn, 1)]
set_option maxRecDepth 100000 in
theorem dX8_read_78_g : dX8_read_78_l.all (fun x => decide (decode cX8_read x.1 = .ok x.2)) = true := by decide +kernel
theorem dX8_read_78 : decode cX8_read 78 = .ok (.getfield 22, 3) := nq_d dX8_read_78_g (n := 0) rfl
theorem dX8_read_81 : decode cX8_read 81 = .ok (.ireturn, 1) := nq_d dX8_read_78_g (n := 1) rfl
noncomputable def dX8_changeDraft_0_l : List (Nat × Instr × Nat) := [(0, .aload_n 0, 1), (1, .getfield 37, 3), (4, .astore_n 2, 1), (5, .aload_n 0, 1), (6, .aload_n 1, 1), (7, .putfield 37, 3), (10, .aload_n 2, 1), (11, .areturn, 1)]
set_option maxRecDepth 100000 in
theorem dX8_changeDraft_0_g : dX8_changeDraft_0_l.all (fun x => decide (decode cX8_changeDraft x.1 = .ok x.2)) = true := by decide +kernel
theorem dX8_changeDraft_0 : decode cX8_changeDraft 0 = .ok (.aload_n 0, 1) := nq_d dX8_changeDraft_0_g (n := 0) rfl
theorem dX8_changeDraft_1 : decode cX8_changeDraft 1 = .ok (.getfield 37, 3) := nq_d dX8_changeDraft_0_g (n := 1) rfl
theorem dX8_changeDraft_4 : decode cX8_changeDraft 4 = .ok (.astore_n 2, 1) := nq_d dX8_changeDraft_0_g (n := 2) rfl
theorem dX8_changeDraft_5 : decode cX8_changeDraft 5 = .ok (.aload_n 0, 1) := nq_d dX8_changeDraft_0_g (n := 3) rfl
theorem dX8_changeDraft_6 : decode cX8_changeDraft 6 = .ok (.aload_n 1, 1) := nq_d dX8_changeDraft_0_g (n := 4) rfl
theorem dX8_changeDraft_7 : decode cX8_changeDraft 7 = .ok (.putfield 37, 3) := nq_d dX8_changeDraft_0_g (n := 5) rfl
theorem dX8_changeDraft_10 : decode cX8_changeDraft 10 = .ok (.aload_n 2, 1) := nq_d dX8_changeDraft_0_g (n := 6) rfl
theorem dX8_changeDraft_11 : decode cX8_changeDraft 11 = .ok (.areturn, 1) := nq_d dX8_changeDraft_0_g (n := 7) rfl
set_option maxRecDepth 100000 in
theorem ggX8_readClause_X8_isHere : GoodIn wsX8_readClause wsX8_isHere := goodIn_sub (sub_c (nq_m (n := 9) rfl) (sub_c (nq_m (n := 1) rfl) (sub_c (nq_m (n := 10) rfl) (sub_c (nq_m (n := 11) rfl) (sub_c (nq_m (n := 12) rfl) (sub_c (nq_m (n := 13) rfl) (sub_c (nq_m (n := 14) rfl) (sub_c (nq_m (n := 15) rfl) (sub_c (nq_m (n := 16) rfl) (sub_c (nq_m (n := 17) rfl) (sub_c (nq_m (n := 18) rfl) (sub_c (nq_m (n := 19) rfl) (sub_c (nq_m (n := 20) rfl) (sub_c (nq_m (n := 21) rfl) (sub_c (nq_m (n := 22) rfl) (sub_c (nq_m (n := 23) rfl) (sub_c (nq_m (n := 24) rfl) (sub_c (nq_m (n := 8) rfl) (sub_c (nq_m (n := 25) rfl) (sub_c (nq_m (n := 26) rfl) (sub_c (nq_m (n := 27) rfl) (sub_c (nq_m (n := 28) rfl) (sub_c (nq_m (n := 29) rfl) (sub_c (nq_m (n := 30) rfl) (sub_c (nq_m (n := 31) rfl) (sub_c (nq_m (n := 32) rfl) (sub_c (nq_m (n := 33) rfl) (sub_c (nq_m (n := 34) rfl) (sub_c (nq_m (n := 35) rfl) (sub_c (nq_m (n := 36) rfl) (sub_c (nq_m (n := 37) rfl) (sub_c (nq_m (n := 38) rfl) (sub_c (nq_m (n := 39) rfl) (sub_c (nq_m (n := 40) rfl) (sub_c (nq_m (n := 41) rfl) (sub_c (nq_m (n := 42) rfl) (sub_c (nq_m (n := 43) rfl) (sub_c (nq_m (n := 44) rfl) (sub_c (nq_m (n := 45) rfl) (sub_c (nq_m (n := 46) rfl) (sub_c (nq_m (n := 47) rfl) (sub_c (nq_m (n := 48) rfl) (sub_c (nq_m (n := 49) rfl) (sub_c (nq_m (n := 50) rfl) (sub_c (nq_m (n := 51) rfl) (sub_c (nq_m (n := 52) rfl) (sub_c (nq_m (n := 53) rfl) (sub_c (nq_m (n := 54) rfl) (sub_c (nq_m (n := 55) rfl) (sub_c (nq_m (n := 56) rfl) (sub_c (nq_m (n := 57) rfl) (sub_c (nq_m (n := 58) rfl) (sub_c (nq_m (n := 59) rfl) (sub_c (nq_m (n := 60) rfl) (sub_c (nq_m (n := 61) rfl) (sub_c (nq_m (n := 62) rfl) (sub_c (nq_m (n := 63) rfl) (sub_c (nq_m (n := 64) rfl) (sub_c (nq_m (n := 131) rfl) (sub_c (nq_m (n := 132) rfl) (sub_c (nq_m (n := 133) rfl) (sub_c (nq_m (n := 134) rfl) (sub_c (nq_m (n := 135) rfl) (sub_c (nq_m (n := 136) rfl) (sub_c (nq_m (n := 137) rfl) (sub_c (nq_m (n := 138) rfl) sub_n)))))))))))))))))))))))))))))))))))))))))))))))))))))))))))))))))) (by decide +kernel)
set_option maxRecDepth 100000 in
theorem gX8_readClause_X8_isHere : GoodIn wsX8_readClause (wsV RX8 52 RX8 yX8_isHere wsX8_isHere) := goodIn_app (goodIn_sub (sub_c (nq_m (n := 5) rfl) (sub_c (nq_m (n := 6) rfl) (sub_c (nq_m (n := 7) rfl) (sub_c (nq_m (n := 8) rfl) sub_n)))) (by decide +kernel)) ggX8_readClause_X8_isHere
set_option maxRecDepth 100000 in
theorem ggX8_readClause_X8_readRow : GoodIn wsX8_readClause wsX8_readRow := goodIn_sub (sub_c (nq_m (n := 68) rfl) (sub_c (nq_m (n := 2) rfl) (sub_c (nq_m (n := 69) rfl) (sub_c (nq_m (n := 70) rfl) (sub_c (nq_m (n := 71) rfl) (sub_c (nq_m (n := 72) rfl) (sub_c (nq_m (n := 73) rfl) (sub_c (nq_m (n := 74) rfl) (sub_c (nq_m (n := 8) rfl) (sub_c (nq_m (n := 75) rfl) (sub_c (nq_m (n := 1) rfl) (sub_c (nq_m (n := 76) rfl) (sub_c (nq_m (n := 77) rfl) (sub_c (nq_m (n := 78) rfl) (sub_c (nq_m (n := 79) rfl) (sub_c (nq_m (n := 26) rfl) (sub_c (nq_m (n := 22) rfl) (sub_c (nq_m (n := 23) rfl) (sub_c (nq_m (n := 24) rfl) (sub_c (nq_m (n := 25) rfl) (sub_c (nq_m (n := 27) rfl) (sub_c (nq_m (n := 5) rfl) (sub_c (nq_m (n := 6) rfl) (sub_c (nq_m (n := 7) rfl) (sub_c (nq_m (n := 9) rfl) (sub_c (nq_m (n := 10) rfl) (sub_c (nq_m (n := 11) rfl) (sub_c (nq_m (n := 12) rfl) (sub_c (nq_m (n := 13) rfl) (sub_c (nq_m (n := 14) rfl) (sub_c (nq_m (n := 15) rfl) (sub_c (nq_m (n := 16) rfl) (sub_c (nq_m (n := 17) rfl) (sub_c (nq_m (n := 18) rfl) (sub_c (nq_m (n := 19) rfl) (sub_c (nq_m (n := 20) rfl) (sub_c (nq_m (n := 21) rfl) (sub_c (nq_m (n := 28) rfl) (sub_c (nq_m (n := 29) rfl) (sub_c (nq_m (n := 30) rfl) (sub_c (nq_m (n := 31) rfl) (sub_c (nq_m (n := 32) rfl) (sub_c (nq_m (n := 33) rfl) (sub_c (nq_m (n := 34) rfl) (sub_c (nq_m (n := 35) rfl) (sub_c (nq_m (n := 36) rfl) (sub_c (nq_m (n := 37) rfl) (sub_c (nq_m (n := 38) rfl) (sub_c (nq_m (n := 39) rfl) (sub_c (nq_m (n := 40) rfl) (sub_c (nq_m (n := 41) rfl) (sub_c (nq_m (n := 42) rfl) (sub_c (nq_m (n := 43) rfl) (sub_c (nq_m (n := 44) rfl) (sub_c (nq_m (n := 45) rfl) (sub_c (nq_m (n := 46) rfl) (sub_c (nq_m (n := 47) rfl) (sub_c (nq_m (n := 48) rfl) (sub_c (nq_m (n := 49) rfl) (sub_c (nq_m (n := 50) rfl) (sub_c (nq_m (n := 51) rfl) (sub_c (nq_m (n := 52) rfl) (sub_c (nq_m (n := 53) rfl) (sub_c (nq_m (n := 54) rfl) (sub_c (nq_m (n := 55) rfl) (sub_c (nq_m (n := 56) rfl) (sub_c (nq_m (n := 57) rfl) (sub_c (nq_m (n := 58) rfl) (sub_c (nq_m (n := 59) rfl) (sub_c (nq_m (n := 60) rfl) (sub_c (nq_m (n := 61) rfl) (sub_c (nq_m (n := 62) rfl) (sub_c (nq_m (n := 63) rfl) (sub_c (nq_m (n := 64) rfl) (sub_c (nq_m (n := 80) rfl) (sub_c (nq_m (n := 81) rfl) (sub_c (nq_m (n := 82) rfl) (sub_c (nq_m (n := 83) rfl) (sub_c (nq_m (n := 84) rfl) (sub_c (nq_m (n := 85) rfl) (sub_c (nq_m (n := 86) rfl) (sub_c (nq_m (n := 87) rfl) (sub_c (nq_m (n := 88) rfl) (sub_c (nq_m (n := 89) rfl) (sub_c (nq_m (n := 90) rfl) (sub_c (nq_m (n := 91) rfl) (sub_c (nq_m (n := 92) rfl) (sub_c (nq_m (n := 93) rfl) (sub_c (nq_m (n := 94) rfl) (sub_c (nq_m (n := 95) rfl) (sub_c (nq_m (n := 96) rfl) (sub_c (nq_m (n := 97) rfl) (sub_c (nq_m (n := 98) rfl) (sub_c (nq_m (n := 99) rfl) (sub_c (nq_m (n := 100) rfl) (sub_c (nq_m (n := 101) rfl) (sub_c (nq_m (n := 102) rfl) (sub_c (nq_m (n := 103) rfl) (sub_c (nq_m (n := 104) rfl) (sub_c (nq_m (n := 105) rfl) (sub_c (nq_m (n := 106) rfl) (sub_c (nq_m (n := 107) rfl) (sub_c (nq_m (n := 131) rfl) (sub_c (nq_m (n := 132) rfl) (sub_c (nq_m (n := 133) rfl) (sub_c (nq_m (n := 134) rfl) (sub_c (nq_m (n := 135) rfl) (sub_c (nq_m (n := 136) rfl) (sub_c (nq_m (n := 137) rfl) (sub_c (nq_m (n := 138) rfl) (sub_c (nq_m (n := 139) rfl) (sub_c (nq_m (n := 140) rfl) (sub_c (nq_m (n := 141) rfl) (sub_c (nq_m (n := 142) rfl) (sub_c (nq_m (n := 143) rfl) (sub_c (nq_m (n := 144) rfl) (sub_c (nq_m (n := 145) rfl) sub_n))))))))))))))))))))))))))))))))))))))))))))))))))))))))))))))))))))))))))))))))))))))))))))))))))))))))))))))))))))) (by decide +kernel)
set_option maxRecDepth 100000 in
theorem gX8_readClause_X8_readRow : GoodIn wsX8_readClause (wsV RX8 56 RX8 yX8_readRow wsX8_readRow) := goodIn_app (goodIn_sub (sub_c (nq_m (n := 65) rfl) (sub_c (nq_m (n := 66) rfl) (sub_c (nq_m (n := 67) rfl) (sub_c (nq_m (n := 8) rfl) sub_n)))) (by decide +kernel)) ggX8_readClause_X8_readRow
set_option maxRecDepth 100000 in
theorem ggX8_readClause_X8_readOdds : GoodIn wsX8_readClause wsX8_readOdds := goodIn_sub (sub_c (nq_m (n := 111) rfl) (sub_c (nq_m (n := 70) rfl) (sub_c (nq_m (n := 2) rfl) (sub_c (nq_m (n := 72) rfl) (sub_c (nq_m (n := 73) rfl) (sub_c (nq_m (n := 74) rfl) (sub_c (nq_m (n := 8) rfl) (sub_c (nq_m (n := 75) rfl) (sub_c (nq_m (n := 1) rfl) (sub_c (nq_m (n := 76) rfl) (sub_c (nq_m (n := 77) rfl) (sub_c (nq_m (n := 78) rfl) (sub_c (nq_m (n := 79) rfl) (sub_c (nq_m (n := 26) rfl) (sub_c (nq_m (n := 22) rfl) (sub_c (nq_m (n := 23) rfl) (sub_c (nq_m (n := 24) rfl) (sub_c (nq_m (n := 25) rfl) (sub_c (nq_m (n := 27) rfl) (sub_c (nq_m (n := 5) rfl) (sub_c (nq_m (n := 6) rfl) (sub_c (nq_m (n := 7) rfl) (sub_c (nq_m (n := 9) rfl) (sub_c (nq_m (n := 10) rfl) (sub_c (nq_m (n := 11) rfl) (sub_c (nq_m (n := 12) rfl) (sub_c (nq_m (n := 13) rfl) (sub_c (nq_m (n := 14) rfl) (sub_c (nq_m (n := 15) rfl) (sub_c (nq_m (n := 16) rfl) (sub_c (nq_m (n := 17) rfl) (sub_c (nq_m (n := 18) rfl) (sub_c (nq_m (n := 19) rfl) (sub_c (nq_m (n := 20) rfl) (sub_c (nq_m (n := 21) rfl) (sub_c (nq_m (n := 28) rfl) (sub_c (nq_m (n := 29) rfl) (sub_c (nq_m (n := 30) rfl) (sub_c (nq_m (n := 31) rfl) (sub_c (nq_m (n := 32) rfl) (sub_c (nq_m (n := 33) rfl) (sub_c (nq_m (n := 34) rfl) (sub_c (nq_m (n := 35) rfl) (sub_c (nq_m (n := 36) rfl) (sub_c (nq_m (n := 37) rfl) (sub_c (nq_m (n := 38) rfl) (sub_c (nq_m (n := 39) rfl) (sub_c (nq_m (n := 40) rfl) (sub_c (nq_m (n := 41) rfl) (sub_c (nq_m (n := 42) rfl) (sub_c (nq_m (n := 43) rfl) (sub_c (nq_m (n := 44) rfl) (sub_c (nq_m (n := 45) rfl) (sub_c (nq_m (n := 46) rfl) (sub_c (nq_m (n := 47) rfl) (sub_c (nq_m (n := 48) rfl) (sub_c (nq_m (n := 49) rfl) (sub_c (nq_m (n := 50) rfl) (sub_c (nq_m (n := 51) rfl) (sub_c (nq_m (n := 52) rfl) (sub_c (nq_m (n := 53) rfl) (sub_c (nq_m (n := 54) rfl) (sub_c (nq_m (n := 55) rfl) (sub_c (nq_m (n := 56) rfl) (sub_c (nq_m (n := 57) rfl) (sub_c (nq_m (n := 58) rfl) (sub_c (nq_m (n := 59) rfl) (sub_c (nq_m (n := 60) rfl) (sub_c (nq_m (n := 61) rfl) (sub_c (nq_m (n := 62) rfl) (sub_c (nq_m (n := 63) rfl) (sub_c (nq_m (n := 64) rfl) (sub_c (nq_m (n := 80) rfl) (sub_c (nq_m (n := 81) rfl) (sub_c (nq_m (n := 82) rfl) (sub_c (nq_m (n := 83) rfl) (sub_c (nq_m (n := 71) rfl) (sub_c (nq_m (n := 84) rfl) (sub_c (nq_m (n := 85) rfl) (sub_c (nq_m (n := 86) rfl) (sub_c (nq_m (n := 87) rfl) (sub_c (nq_m (n := 88) rfl) (sub_c (nq_m (n := 89) rfl) (sub_c (nq_m (n := 90) rfl) (sub_c (nq_m (n := 91) rfl) (sub_c (nq_m (n := 92) rfl) (sub_c (nq_m (n := 93) rfl) (sub_c (nq_m (n := 94) rfl) (sub_c (nq_m (n := 95) rfl) (sub_c (nq_m (n := 112) rfl) (sub_c (nq_m (n := 113) rfl) (sub_c (nq_m (n := 114) rfl) (sub_c (nq_m (n := 115) rfl) (sub_c (nq_m (n := 116) rfl) (sub_c (nq_m (n := 96) rfl) (sub_c (nq_m (n := 97) rfl) (sub_c (nq_m (n := 98) rfl) (sub_c (nq_m (n := 99) rfl) (sub_c (nq_m (n := 117) rfl) (sub_c (nq_m (n := 118) rfl) (sub_c (nq_m (n := 119) rfl) (sub_c (nq_m (n := 103) rfl) (sub_c (nq_m (n := 120) rfl) (sub_c (nq_m (n := 121) rfl) (sub_c (nq_m (n := 131) rfl) (sub_c (nq_m (n := 132) rfl) (sub_c (nq_m (n := 133) rfl) (sub_c (nq_m (n := 134) rfl) (sub_c (nq_m (n := 135) rfl) (sub_c (nq_m (n := 136) rfl) (sub_c (nq_m (n := 137) rfl) (sub_c (nq_m (n := 138) rfl) (sub_c (nq_m (n := 139) rfl) (sub_c (nq_m (n := 140) rfl) (sub_c (nq_m (n := 141) rfl) (sub_c (nq_m (n := 142) rfl) (sub_c (nq_m (n := 143) rfl) (sub_c (nq_m (n := 144) rfl) (sub_c (nq_m (n := 145) rfl) sub_n))))))))))))))))))))))))))))))))))))))))))))))))))))))))))))))))))))))))))))))))))))))))))))))))))))))))))))))))))))))) (by decide +kernel)
set_option maxRecDepth 100000 in
theorem gX8_readClause_X8_readOdds : GoodIn wsX8_readClause (wsV RX8 61 RX8 yX8_readOdds wsX8_readOdds) := goodIn_app (goodIn_sub (sub_c (nq_m (n := 108) rfl) (sub_c (nq_m (n := 109) rfl) (sub_c (nq_m (n := 110) rfl) (sub_c (nq_m (n := 8) rfl) sub_n)))) (by decide +kernel)) ggX8_readClause_X8_readOdds
set_option maxRecDepth 100000 in
theorem ggX8_readClause_X8_tellOnce : GoodIn wsX8_readClause wsX8_tellOnce := goodIn_sub (sub_c (nq_m (n := 115) rfl) (sub_c (nq_m (n := 116) rfl) (sub_c (nq_m (n := 80) rfl) (sub_c (nq_m (n := 81) rfl) (sub_c (nq_m (n := 82) rfl) (sub_c (nq_m (n := 8) rfl) (sub_c (nq_m (n := 83) rfl) (sub_c (nq_m (n := 71) rfl) (sub_c (nq_m (n := 84) rfl) (sub_c (nq_m (n := 131) rfl) (sub_c (nq_m (n := 132) rfl) (sub_c (nq_m (n := 133) rfl) (sub_c (nq_m (n := 134) rfl) (sub_c (nq_m (n := 135) rfl) (sub_c (nq_m (n := 136) rfl) (sub_c (nq_m (n := 137) rfl) (sub_c (nq_m (n := 138) rfl) sub_n))))))))))))))))) (by decide +kernel)
set_option maxRecDepth 100000 in
theorem gX8_readClause_X8_tellOnce : GoodIn wsX8_readClause (wsV RX8 66 RX8 yX8_tellOnce wsX8_tellOnce) := goodIn_app (goodIn_sub (sub_c (nq_m (n := 112) rfl) (sub_c (nq_m (n := 113) rfl) (sub_c (nq_m (n := 114) rfl) (sub_c (nq_m (n := 8) rfl) sub_n)))) (by decide +kernel)) ggX8_readClause_X8_tellOnce
set_option maxRecDepth 100000 in
theorem ggX8_readClause_X8_readWeights : GoodIn wsX8_readClause wsX8_readWeights := goodIn_sub (sub_c (nq_m (n := 125) rfl) (sub_c (nq_m (n := 2) rfl) (sub_c (nq_m (n := 72) rfl) (sub_c (nq_m (n := 73) rfl) (sub_c (nq_m (n := 74) rfl) (sub_c (nq_m (n := 8) rfl) (sub_c (nq_m (n := 75) rfl) (sub_c (nq_m (n := 1) rfl) (sub_c (nq_m (n := 76) rfl) (sub_c (nq_m (n := 77) rfl) (sub_c (nq_m (n := 78) rfl) (sub_c (nq_m (n := 79) rfl) (sub_c (nq_m (n := 26) rfl) (sub_c (nq_m (n := 22) rfl) (sub_c (nq_m (n := 23) rfl) (sub_c (nq_m (n := 24) rfl) (sub_c (nq_m (n := 25) rfl) (sub_c (nq_m (n := 27) rfl) (sub_c (nq_m (n := 5) rfl) (sub_c (nq_m (n := 6) rfl) (sub_c (nq_m (n := 7) rfl) (sub_c (nq_m (n := 9) rfl) (sub_c (nq_m (n := 10) rfl) (sub_c (nq_m (n := 11) rfl) (sub_c (nq_m (n := 12) rfl) (sub_c (nq_m (n := 13) rfl) (sub_c (nq_m (n := 14) rfl) (sub_c (nq_m (n := 15) rfl) (sub_c (nq_m (n := 16) rfl) (sub_c (nq_m (n := 17) rfl) (sub_c (nq_m (n := 18) rfl) (sub_c (nq_m (n := 19) rfl) (sub_c (nq_m (n := 20) rfl) (sub_c (nq_m (n := 21) rfl) (sub_c (nq_m (n := 28) rfl) (sub_c (nq_m (n := 29) rfl) (sub_c (nq_m (n := 30) rfl) (sub_c (nq_m (n := 31) rfl) (sub_c (nq_m (n := 32) rfl) (sub_c (nq_m (n := 33) rfl) (sub_c (nq_m (n := 34) rfl) (sub_c (nq_m (n := 35) rfl) (sub_c (nq_m (n := 36) rfl) (sub_c (nq_m (n := 37) rfl) (sub_c (nq_m (n := 38) rfl) (sub_c (nq_m (n := 39) rfl) (sub_c (nq_m (n := 40) rfl) (sub_c (nq_m (n := 41) rfl) (sub_c (nq_m (n := 42) rfl) (sub_c (nq_m (n := 43) rfl) (sub_c (nq_m (n := 44) rfl) (sub_c (nq_m (n := 45) rfl) (sub_c (nq_m (n := 46) rfl) (sub_c (nq_m (n := 47) rfl) (sub_c (nq_m (n := 48) rfl) (sub_c (nq_m (n := 49) rfl) (sub_c (nq_m (n := 50) rfl) (sub_c (nq_m (n := 51) rfl) (sub_c (nq_m (n := 52) rfl) (sub_c (nq_m (n := 53) rfl) (sub_c (nq_m (n := 54) rfl) (sub_c (nq_m (n := 55) rfl) (sub_c (nq_m (n := 56) rfl) (sub_c (nq_m (n := 57) rfl) (sub_c (nq_m (n := 58) rfl) (sub_c (nq_m (n := 59) rfl) (sub_c (nq_m (n := 60) rfl) (sub_c (nq_m (n := 61) rfl) (sub_c (nq_m (n := 62) rfl) (sub_c (nq_m (n := 63) rfl) (sub_c (nq_m (n := 64) rfl) (sub_c (nq_m (n := 80) rfl) (sub_c (nq_m (n := 81) rfl) (sub_c (nq_m (n := 82) rfl) (sub_c (nq_m (n := 83) rfl) (sub_c (nq_m (n := 71) rfl) (sub_c (nq_m (n := 84) rfl) (sub_c (nq_m (n := 85) rfl) (sub_c (nq_m (n := 86) rfl) (sub_c (nq_m (n := 87) rfl) (sub_c (nq_m (n := 88) rfl) (sub_c (nq_m (n := 70) rfl) (sub_c (nq_m (n := 89) rfl) (sub_c (nq_m (n := 90) rfl) (sub_c (nq_m (n := 91) rfl) (sub_c (nq_m (n := 92) rfl) (sub_c (nq_m (n := 93) rfl) (sub_c (nq_m (n := 94) rfl) (sub_c (nq_m (n := 95) rfl) (sub_c (nq_m (n := 96) rfl) (sub_c (nq_m (n := 97) rfl) (sub_c (nq_m (n := 98) rfl) (sub_c (nq_m (n := 99) rfl) (sub_c (nq_m (n := 126) rfl) (sub_c (nq_m (n := 127) rfl) (sub_c (nq_m (n := 128) rfl) (sub_c (nq_m (n := 103) rfl) (sub_c (nq_m (n := 129) rfl) (sub_c (nq_m (n := 130) rfl) (sub_c (nq_m (n := 131) rfl) (sub_c (nq_m (n := 132) rfl) (sub_c (nq_m (n := 133) rfl) (sub_c (nq_m (n := 134) rfl) (sub_c (nq_m (n := 135) rfl) (sub_c (nq_m (n := 136) rfl) (sub_c (nq_m (n := 137) rfl) (sub_c (nq_m (n := 138) rfl) (sub_c (nq_m (n := 139) rfl) (sub_c (nq_m (n := 140) rfl) (sub_c (nq_m (n := 141) rfl) (sub_c (nq_m (n := 142) rfl) (sub_c (nq_m (n := 143) rfl) (sub_c (nq_m (n := 144) rfl) (sub_c (nq_m (n := 145) rfl) sub_n)))))))))))))))))))))))))))))))))))))))))))))))))))))))))))))))))))))))))))))))))))))))))))))))))))))))))))))))))) (by decide +kernel)
set_option maxRecDepth 100000 in
theorem gX8_readClause_X8_readWeights : GoodIn wsX8_readClause (wsV RX8 70 RX8 yX8_readWeights wsX8_readWeights) := goodIn_app (goodIn_sub (sub_c (nq_m (n := 122) rfl) (sub_c (nq_m (n := 123) rfl) (sub_c (nq_m (n := 124) rfl) (sub_c (nq_m (n := 8) rfl) sub_n)))) (by decide +kernel)) ggX8_readClause_X8_readWeights
set_option maxRecDepth 100000 in
theorem ggX8_readClause_X8_needWord : GoodIn wsX8_readClause wsX8_needWord := goodIn_sub (sub_c (nq_m (n := 75) rfl) (sub_c (nq_m (n := 1) rfl) (sub_c (nq_m (n := 76) rfl) (sub_c (nq_m (n := 77) rfl) (sub_c (nq_m (n := 78) rfl) (sub_c (nq_m (n := 8) rfl) (sub_c (nq_m (n := 79) rfl) (sub_c (nq_m (n := 26) rfl) (sub_c (nq_m (n := 22) rfl) (sub_c (nq_m (n := 23) rfl) (sub_c (nq_m (n := 24) rfl) (sub_c (nq_m (n := 25) rfl) (sub_c (nq_m (n := 27) rfl) (sub_c (nq_m (n := 5) rfl) (sub_c (nq_m (n := 6) rfl) (sub_c (nq_m (n := 7) rfl) (sub_c (nq_m (n := 9) rfl) (sub_c (nq_m (n := 10) rfl) (sub_c (nq_m (n := 11) rfl) (sub_c (nq_m (n := 12) rfl) (sub_c (nq_m (n := 13) rfl) (sub_c (nq_m (n := 14) rfl) (sub_c (nq_m (n := 15) rfl) (sub_c (nq_m (n := 16) rfl) (sub_c (nq_m (n := 17) rfl) (sub_c (nq_m (n := 18) rfl) (sub_c (nq_m (n := 19) rfl) (sub_c (nq_m (n := 20) rfl) (sub_c (nq_m (n := 21) rfl) (sub_c (nq_m (n := 28) rfl) (sub_c (nq_m (n := 29) rfl) (sub_c (nq_m (n := 30) rfl) (sub_c (nq_m (n := 31) rfl) (sub_c (nq_m (n := 32) rfl) (sub_c (nq_m (n := 33) rfl) (sub_c (nq_m (n := 34) rfl) (sub_c (nq_m (n := 35) rfl) (sub_c (nq_m (n := 36) rfl) (sub_c (nq_m (n := 37) rfl) (sub_c (nq_m (n := 38) rfl) (sub_c (nq_m (n := 39) rfl) (sub_c (nq_m (n := 40) rfl) (sub_c (nq_m (n := 41) rfl) (sub_c (nq_m (n := 42) rfl) (sub_c (nq_m (n := 43) rfl) (sub_c (nq_m (n := 44) rfl) (sub_c (nq_m (n := 45) rfl) (sub_c (nq_m (n := 46) rfl) (sub_c (nq_m (n := 47) rfl) (sub_c (nq_m (n := 48) rfl) (sub_c (nq_m (n := 49) rfl) (sub_c (nq_m (n := 50) rfl) (sub_c (nq_m (n := 51) rfl) (sub_c (nq_m (n := 52) rfl) (sub_c (nq_m (n := 53) rfl) (sub_c (nq_m (n := 54) rfl) (sub_c (nq_m (n := 55) rfl) (sub_c (nq_m (n := 56) rfl) (sub_c (nq_m (n := 57) rfl) (sub_c (nq_m (n := 58) rfl) (sub_c (nq_m (n := 59) rfl) (sub_c (nq_m (n := 60) rfl) (sub_c (nq_m (n := 61) rfl) (sub_c (nq_m (n := 62) rfl) (sub_c (nq_m (n := 63) rfl) (sub_c (nq_m (n := 64) rfl) (sub_c (nq_m (n := 80) rfl) (sub_c (nq_m (n := 81) rfl) (sub_c (nq_m (n := 82) rfl) (sub_c (nq_m (n := 83) rfl) (sub_c (nq_m (n := 71) rfl) (sub_c (nq_m (n := 84) rfl) (sub_c (nq_m (n := 131) rfl) (sub_c (nq_m (n := 132) rfl) (sub_c (nq_m (n := 133) rfl) (sub_c (nq_m (n := 134) rfl) (sub_c (nq_m (n := 135) rfl) (sub_c (nq_m (n := 136) rfl) (sub_c (nq_m (n := 137) rfl) (sub_c (nq_m (n := 138) rfl) sub_n)))))))))))))))))))))))))))))))))))))))))))))))))))))))))))))))))))))))))))))))) (by decide +kernel)
set_option maxRecDepth 100000 in
theorem gX8_readClause_X8_needWord : GoodIn wsX8_readClause (wsV RX8 75 RX8 yX8_needWord wsX8_needWord) := goodIn_app (goodIn_sub (sub_c (nq_m (n := 72) rfl) (sub_c (nq_m (n := 73) rfl) (sub_c (nq_m (n := 74) rfl) (sub_c (nq_m (n := 8) rfl) sub_n)))) (by decide +kernel)) ggX8_readClause_X8_needWord
set_option maxRecDepth 100000 in
theorem ggX8_readClause_X8_needNumber : GoodIn wsX8_readClause wsX8_needNumber := goodIn_sub (sub_c (nq_m (n := 88) rfl) (sub_c (nq_m (n := 1) rfl) (sub_c (nq_m (n := 70) rfl) (sub_c (nq_m (n := 26) rfl) (sub_c (nq_m (n := 76) rfl) (sub_c (nq_m (n := 77) rfl) (sub_c (nq_m (n := 78) rfl) (sub_c (nq_m (n := 8) rfl) (sub_c (nq_m (n := 79) rfl) (sub_c (nq_m (n := 22) rfl) (sub_c (nq_m (n := 23) rfl) (sub_c (nq_m (n := 24) rfl) (sub_c (nq_m (n := 25) rfl) (sub_c (nq_m (n := 27) rfl) (sub_c (nq_m (n := 89) rfl) (sub_c (nq_m (n := 90) rfl) (sub_c (nq_m (n := 91) rfl) (sub_c (nq_m (n := 92) rfl) (sub_c (nq_m (n := 93) rfl) (sub_c (nq_m (n := 94) rfl) (sub_c (nq_m (n := 95) rfl) (sub_c (nq_m (n := 80) rfl) (sub_c (nq_m (n := 81) rfl) (sub_c (nq_m (n := 82) rfl) (sub_c (nq_m (n := 83) rfl) (sub_c (nq_m (n := 71) rfl) (sub_c (nq_m (n := 84) rfl) (sub_c (nq_m (n := 131) rfl) (sub_c (nq_m (n := 132) rfl) (sub_c (nq_m (n := 133) rfl) (sub_c (nq_m (n := 134) rfl) (sub_c (nq_m (n := 135) rfl) (sub_c (nq_m (n := 136) rfl) (sub_c (nq_m (n := 137) rfl) (sub_c (nq_m (n := 138) rfl) sub_n))))))))))))))))))))))))))))))))))) (by decide +kernel)
set_option maxRecDepth 100000 in
theorem gX8_readClause_X8_needNumber : GoodIn wsX8_readClause (wsV RX8 79 RX8 yX8_needNumber wsX8_needNumber) := goodIn_app (goodIn_sub (sub_c (nq_m (n := 85) rfl) (sub_c (nq_m (n := 86) rfl) (sub_c (nq_m (n := 87) rfl) (sub_c (nq_m (n := 8) rfl) sub_n)))) (by decide +kernel)) ggX8_readClause_X8_needNumber
set_option maxRecDepth 100000 in
theorem ggX8_readClause_X8_needEnd : GoodIn wsX8_readClause wsX8_needEnd := goodIn_sub (sub_c (nq_m (n := 99) rfl) (sub_c (nq_m (n := 1) rfl) (sub_c (nq_m (n := 76) rfl) (sub_c (nq_m (n := 77) rfl) (sub_c (nq_m (n := 78) rfl) (sub_c (nq_m (n := 8) rfl) (sub_c (nq_m (n := 79) rfl) (sub_c (nq_m (n := 26) rfl) (sub_c (nq_m (n := 22) rfl) (sub_c (nq_m (n := 23) rfl) (sub_c (nq_m (n := 24) rfl) (sub_c (nq_m (n := 25) rfl) (sub_c (nq_m (n := 27) rfl) (sub_c (nq_m (n := 80) rfl) (sub_c (nq_m (n := 81) rfl) (sub_c (nq_m (n := 82) rfl) (sub_c (nq_m (n := 83) rfl) (sub_c (nq_m (n := 71) rfl) (sub_c (nq_m (n := 84) rfl) (sub_c (nq_m (n := 131) rfl) (sub_c (nq_m (n := 132) rfl) (sub_c (nq_m (n := 133) rfl) (sub_c (nq_m (n := 134) rfl) (sub_c (nq_m (n := 135) rfl) (sub_c (nq_m (n := 136) rfl) (sub_c (nq_m (n := 137) rfl) (sub_c (nq_m (n := 138) rfl) sub_n))))))))))))))))))))))))))) (by decide +kernel)
set_option maxRecDepth 100000 in
theorem gX8_readClause_X8_needEnd : GoodIn wsX8_readClause (wsV RX8 83 RX8 yX8_needEnd wsX8_needEnd) := goodIn_app (goodIn_sub (sub_c (nq_m (n := 96) rfl) (sub_c (nq_m (n := 97) rfl) (sub_c (nq_m (n := 98) rfl) (sub_c (nq_m (n := 8) rfl) sub_n)))) (by decide +kernel)) ggX8_readClause_X8_needEnd
set_option maxRecDepth 100000 in
theorem ggX8_readClause_X8_fail : GoodIn wsX8_readClause wsX8_fail := goodIn_sub (sub_c (nq_m (n := 83) rfl) (sub_c (nq_m (n := 71) rfl) (sub_c (nq_m (n := 84) rfl) (sub_c (nq_m (n := 131) rfl) (sub_c (nq_m (n := 132) rfl) (sub_c (nq_m (n := 133) rfl) (sub_c (nq_m (n := 134) rfl) (sub_c (nq_m (n := 135) rfl) (sub_c (nq_m (n := 136) rfl) (sub_c (nq_m (n := 137) rfl) (sub_c (nq_m (n := 138) rfl) sub_n))))))))))) (by decide +kernel)
set_option maxRecDepth 100000 in
theorem gX8_readClause_X8_fail : GoodIn wsX8_readClause (wsV RX8 94 RX8 yX8_fail wsX8_fail) := goodIn_app (goodIn_sub (sub_c (nq_m (n := 80) rfl) (sub_c (nq_m (n := 81) rfl) (sub_c (nq_m (n := 82) rfl) (sub_c (nq_m (n := 8) rfl) sub_n)))) (by decide +kernel)) ggX8_readClause_X8_fail
noncomputable def dX8_readClause_0_l : List (Nat × Instr × Nat) := [(0, .aload_n 0, 1), (1, .getfield 25, 3), (4, .istore_n 1, 1), (5, .aload_n 0, 1), (6, .ldc 50, 2), (8, .invokevirtual 52, 3), (11, .ifCond .eq 10, 3), (14, .aload_n 0, 1), (15, .invokevirtual 56, 3), (18, .goto 138, 3), (21, .aload_n 0, 1), (22, .ldc 59, 2), (24, .invokevirtual 52, 3), (27, .ifCond .eq 10, 3), (30, .aload_n 0, 1), (31, .invokevirtual 61, 3), (34, .goto 122, 3), (37, .aload_n 0, 1), (38, .ldc 64, 2), (40, .invokevirtual 52, 3), (43, .ifCond .eq 17, 3), (46, .aload_n 0, 1), (47, .bipush 16, 2), (49, .iload_n 1, 1), (50, .invokevirtual 66, 3), (53, .aload_n 0, 1), (54, .invokevirtual 70, 3), (57, .goto 99, 3), (60, .aload_n 0, 1), (61, .ldc 73, 2), (63, .invokevirtual 52, 3), (66, .ifCond .eq 39, 3), (69, .aload_n 0, 1), (70, .bipush 32, 2), (72, .iload_n 1, 1), (73, .invokevirtual 66, 3), (76, .aload_n 0, 1), (77, .ldc 73, 2), (79, .invokevirtual 75, 3), (82, .aload_n 0, 1)]
set_option maxRecDepth 100000 in
theorem dX8_readClause_0_g : dX8_readClause_0_l.all (fun x => decide (decode cX8_readClause x.1 = .ok x.2)) = true := by decide +kernel
theorem dX8_readClause_0 : decode cX8_readClause 0 = .ok (.aload_n 0, 1) := nq_d dX8_readClause_0_g (n := 0) rfl
theorem dX8_readClause_1 : decode cX8_readClause 1 = .ok (.getfield 25, 3) := nq_d dX8_readClause_0_g (n := 1) rfl
theorem dX8_readClause_4 : decode cX8_readClause 4 = .ok (.istore_n 1, 1) := nq_d dX8_readClause_0_g (n := 2) rfl
theorem dX8_readClause_5 : decode cX8_readClause 5 = .ok (.aload_n 0, 1) := nq_d dX8_readClause_0_g (n := 3) rfl
theorem dX8_readClause_6 : decode cX8_readClause 6 = .ok (.ldc 50, 2) := nq_d dX8_readClause_0_g (n := 4) rfl
theorem dX8_readClause_8 : decode cX8_readClause 8 = .ok (.invokevirtual 52, 3) := nq_d dX8_readClause_0_g (n := 5) rfl
theorem dX8_readClause_11 : decode cX8_readClause 11 = .ok (.ifCond .eq 10, 3) := nq_d dX8_readClause_0_g (n := 6) rfl
theorem dX8_readClause_14 : decode cX8_readClause 14 = .ok (.aload_n 0, 1) := nq_d dX8_readClause_0_g (n := 7) rfl
theorem dX8_readClause_15 : decode cX8_readClause 15 = .ok (.invokevirtual 56, 3) := nq_d dX8_readClause_0_g (n := 8) rfl
theorem dX8_readClause_18 : decode cX8_readClause 18 = .ok (.goto 138, 3) := nq_d dX8_readClause_0_g (n := 9) rfl
theorem dX8_readClause_21 : decode cX8_readClause 21 = .ok (.aload_n 0, 1) := nq_d dX8_readClause_0_g (n := 10) rfl
theorem dX8_readClause_22 : decode cX8_readClause 22 = .ok (.ldc 59, 2) := nq_d dX8_readClause_0_g (n := 11) rfl
theorem dX8_readClause_24 : decode cX8_readClause 24 = .ok (.invokevirtual 52, 3) := nq_d dX8_readClause_0_g (n := 12) rfl
theorem dX8_readClause_27 : decode cX8_readClause 27 = .ok (.ifCond .eq 10, 3) := nq_d dX8_readClause_0_g (n := 13) rfl
theorem dX8_readClause_30 : decode cX8_readClause 30 = .ok (.aload_n 0, 1) := nq_d dX8_readClause_0_g (n := 14) rfl
theorem dX8_readClause_31 : decode cX8_readClause 31 = .ok (.invokevirtual 61, 3) := nq_d dX8_readClause_0_g (n := 15) rfl
theorem dX8_readClause_34 : decode cX8_readClause 34 = .ok (.goto 122, 3) := nq_d dX8_readClause_0_g (n := 16) rfl
theorem dX8_readClause_37 : decode cX8_readClause 37 = .ok (.aload_n 0, 1) := nq_d dX8_readClause_0_g (n := 17) rfl
theorem dX8_readClause_38 : decode cX8_readClause 38 = .ok (.ldc 64, 2) := nq_d dX8_readClause_0_g (n := 18) rfl
theorem dX8_readClause_40 : decode cX8_readClause 40 = .ok (.invokevirtual 52, 3) := nq_d dX8_readClause_0_g (n := 19) rfl
theorem dX8_readClause_43 : decode cX8_readClause 43 = .ok (.ifCond .eq 17, 3) := nq_d dX8_readClause_0_g (n := 20) rfl
theorem dX8_readClause_46 : decode cX8_readClause 46 = .ok (.aload_n 0, 1) := nq_d dX8_readClause_0_g (n := 21) rfl
theorem dX8_readClause_47 : decode cX8_readClause 47 = .ok (.bipush 16, 2) := nq_d dX8_readClause_0_g (n := 22) rfl
theorem dX8_readClause_49 : decode cX8_readClause 49 = .ok (.iload_n 1, 1) := nq_d dX8_readClause_0_g (n := 23) rfl
theorem dX8_readClause_50 : decode cX8_readClause 50 = .ok (.invokevirtual 66, 3) := nq_d dX8_readClause_0_g (n := 24) rfl
theorem dX8_readClause_53 : decode cX8_readClause 53 = .ok (.aload_n 0, 1) := nq_d dX8_readClause_0_g (n := 25) rfl
theorem dX8_readClause_54 : decode cX8_readClause 54 = .ok (.invokevirtual 70, 3) := nq_d dX8_readClause_0_g (n := 26) rfl
theorem dX8_readClause_57 : decode cX8_readClause 57 = .ok (.goto 99, 3) := nq_d dX8_readClause_0_g (n := 27) rfl
theorem dX8_readClause_60 : decode cX8_readClause 60 = .ok (.aload_n 0, 1) := nq_d dX8_readClause_0_g (n := 28) rfl
theorem dX8_readClause_61 : decode cX8_readClause 61 = .ok (.ldc 73, 2) := nq_d dX8_readClause_0_g (n := 29) rfl
theorem dX8_readClause_63 : decode cX8_readClause 63 = .ok (.invokevirtual 52, 3) := nq_d dX8_readClause_0_g (n := 30) rfl
theorem dX8_readClause_66 : decode cX8_readClause 66 = .ok (.ifCond .eq 39, 3) := nq_d dX8_readClause_0_g (n := 31) rfl
theorem dX8_readClause_69 : decode cX8_readClause 69 = .ok (.aload_n 0, 1) := nq_d dX8_readClause_0_g (n := 32) rfl
theorem dX8_readClause_70 : decode cX8_readClause 70 = .ok (.bipush 32, 2) := nq_d dX8_readClause_0_g (n := 33) rfl
theorem dX8_readClause_72 : decode cX8_readClause 72 = .ok (.iload_n 1, 1) := nq_d dX8_readClause_0_g (n := 34) rfl
theorem dX8_readClause_73 : decode cX8_readClause 73 = .ok (.invokevirtual 66, 3) := nq_d dX8_readClause_0_g (n := 35) rfl
theorem dX8_readClause_76 : decode cX8_readClause 76 = .ok (.aload_n 0, 1) := nq_d dX8_readClause_0_g (n := 36) rfl
theorem dX8_readClause_77 : decode cX8_readClause 77 = .ok (.ldc 73, 2) := nq_d dX8_readClause_0_g (n := 37) rfl
theorem dX8_readClause_79 : decode cX8_readClause 79 = .ok (.invokevirtual 75, 3) := nq_d dX8_readClause_0_g (n := 38) rfl
theorem dX8_readClause_82 : decode cX8_readClause 82 = .ok (.aload_n 0, 1) := nq_d dX8_readClause_0_g (n := 39) rfl
noncomputable def dX8_readClause_83_l : List (Nat × Instr × Nat) := [(83, .iconst 0, 1), (84, .bipush 20, 2), (86, .invokevirtual 79, 3), (89, .istore_n 2, 1), (90, .aload_n 0, 1), (91, .invokevirtual 83, 3), (94, .aload_n 0, 1), (95, .getfield 37, 3), (98, .iload_n 2, 1), (99, .putfield 86, 3), (102, .goto 54, 3), (105, .aload_n 0, 1), (106, .ldc 89, 2), (108, .invokevirtual 52, 3), (111, .ifCond .eq 39, 3), (114, .aload_n 0, 1), (115, .bipush 64, 2), (117, .iload_n 1, 1), (118, .invokevirtual 66, 3), (121, .aload_n 0, 1), (122, .ldc 89, 2), (124, .invokevirtual 75, 3), (127, .aload_n 0, 1), (128, .iconst 0, 1), (129, .bipush 20, 2), (131, .invokevirtual 79, 3), (134, .istore_n 2, 1), (135, .aload_n 0, 1), (136, .invokevirtual 83, 3), (139, .aload_n 0, 1), (140, .getfield 37, 3), (143, .iload_n 2, 1), (144, .putfield 91, 3), (147, .goto 9, 3), (150, .aload_n 0, 1), (151, .iconst 1, 1), (152, .iload_n 1, 1), (153, .invokevirtual 94, 3), (156, .return_, 1)]
set_option maxRecDepth 100000 in
theorem dX8_readClause_83_g : dX8_readClause_83_l.all (fun x => decide (decode cX8_readClause x.1 = .ok x.2)) = true := by decide +kernel
theorem dX8_readClause_83 : decode cX8_readClause 83 = .ok (.iconst 0, 1) := nq_d dX8_readClause_83_g (n := 0) rfl
theorem dX8_readClause_84 : decode cX8_readClause 84 = .ok (.bipush 20, 2) := nq_d dX8_readClause_83_g (n := 1) rfl
theorem dX8_readClause_86 : decode cX8_readClause 86 = .ok (.invokevirtual 79, 3) := nq_d dX8_readClause_83_g (n := 2) rfl
theorem dX8_readClause_89 : decode cX8_readClause 89 = .ok (.istore_n 2, 1) := nq_d dX8_readClause_83_g (n := 3) rfl
theorem dX8_readClause_90 : decode cX8_readClause 90 = .ok (.aload_n 0, 1) := nq_d dX8_readClause_83_g (n := 4) rfl
theorem dX8_readClause_91 : decode cX8_readClause 91 = .ok (.invokevirtual 83, 3) := nq_d dX8_readClause_83_g (n := 5) rfl
theorem dX8_readClause_94 : decode cX8_readClause 94 = .ok (.aload_n 0, 1) := nq_d dX8_readClause_83_g (n := 6) rfl
theorem dX8_readClause_95 : decode cX8_readClause 95 = .ok (.getfield 37, 3) := nq_d dX8_readClause_83_g (n := 7) rfl
theorem dX8_readClause_98 : decode cX8_readClause 98 = .ok (.iload_n 2, 1) := nq_d dX8_readClause_83_g (n := 8) rfl
theorem dX8_readClause_99 : decode cX8_readClause 99 = .ok (.putfield 86, 3) := nq_d dX8_readClause_83_g (n := 9) rfl
theorem dX8_readClause_102 : decode cX8_readClause 102 = .ok (.goto 54, 3) := nq_d dX8_readClause_83_g (n := 10) rfl
theorem dX8_readClause_105 : decode cX8_readClause 105 = .ok (.aload_n 0, 1) := nq_d dX8_readClause_83_g (n := 11) rfl
theorem dX8_readClause_106 : decode cX8_readClause 106 = .ok (.ldc 89, 2) := nq_d dX8_readClause_83_g (n := 12) rfl
theorem dX8_readClause_108 : decode cX8_readClause 108 = .ok (.invokevirtual 52, 3) := nq_d dX8_readClause_83_g (n := 13) rfl
theorem dX8_readClause_111 : decode cX8_readClause 111 = .ok (.ifCond .eq 39, 3) := nq_d dX8_readClause_83_g (n := 14) rfl
theorem dX8_readClause_114 : decode cX8_readClause 114 = .ok (.aload_n 0, 1) := nq_d dX8_readClause_83_g (n := 15) rfl
theorem dX8_readClause_115 : decode cX8_readClause 115 = .ok (.bipush 64, 2) := nq_d dX8_readClause_83_g (n := 16) rfl
theorem dX8_readClause_117 : decode cX8_readClause 117 = .ok (.iload_n 1, 1) := nq_d dX8_readClause_83_g (n := 17) rfl
theorem dX8_readClause_118 : decode cX8_readClause 118 = .ok (.invokevirtual 66, 3) := nq_d dX8_readClause_83_g (n := 18) rfl
theorem dX8_readClause_121 : decode cX8_readClause 121 = .ok (.aload_n 0, 1) := nq_d dX8_readClause_83_g (n := 19) rfl
theorem dX8_readClause_122 : decode cX8_readClause 122 = .ok (.ldc 89, 2) := nq_d dX8_readClause_83_g (n := 20) rfl
theorem dX8_readClause_124 : decode cX8_readClause 124 = .ok (.invokevirtual 75, 3) := nq_d dX8_readClause_83_g (n := 21) rfl
theorem dX8_readClause_127 : decode cX8_readClause 127 = .ok (.aload_n 0, 1) := nq_d dX8_readClause_83_g (n := 22) rfl
theorem dX8_readClause_128 : decode cX8_readClause 128 = .ok (.iconst 0, 1) := nq_d dX8_readClause_83_g (n := 23) rfl
theorem dX8_readClause_129 : decode cX8_readClause 129 = .ok (.bipush 20, 2) := nq_d dX8_readClause_83_g (n := 24) rfl
theorem dX8_readClause_131 : decode cX8_readClause 131 = .ok (.invokevirtual 79, 3) := nq_d dX8_readClause_83_g (n := 25) rfl
theorem dX8_readClause_134 : decode cX8_readClause 134 = .ok (.istore_n 2, 1) := nq_d dX8_readClause_83_g (n := 26) rfl
theorem dX8_readClause_135 : decode cX8_readClause 135 = .ok (.aload_n 0, 1) := nq_d dX8_readClause_83_g (n := 27) rfl
theorem dX8_readClause_136 : decode cX8_readClause 136 = .ok (.invokevirtual 83, 3) := nq_d dX8_readClause_83_g (n := 28) rfl
theorem dX8_readClause_139 : decode cX8_readClause 139 = .ok (.aload_n 0, 1) := nq_d dX8_readClause_83_g (n := 29) rfl
theorem dX8_readClause_140 : decode cX8_readClause 140 = .ok (.getfield 37, 3) := nq_d dX8_readClause_83_g (n := 30) rfl
theorem dX8_readClause_143 : decode cX8_readClause 143 = .ok (.iload_n 2, 1) := nq_d dX8_readClause_83_g (n := 31) rfl
theorem dX8_readClause_144 : decode cX8_readClause 144 = .ok (.putfield 91, 3) := nq_d dX8_readClause_83_g (n := 32) rfl
theorem dX8_readClause_147 : decode cX8_readClause 147 = .ok (.goto 9, 3) := nq_d dX8_readClause_83_g (n := 33) rfl
theorem dX8_readClause_150 : decode cX8_readClause 150 = .ok (.aload_n 0, 1) := nq_d dX8_readClause_83_g (n := 34) rfl
theorem dX8_readClause_151 : decode cX8_readClause 151 = .ok (.iconst 1, 1) := nq_d dX8_readClause_83_g (n := 35) rfl
theorem dX8_readClause_152 : decode cX8_readClause 152 = .ok (.iload_n 1, 1) := nq_d dX8_readClause_83_g (n := 36) rfl
theorem dX8_readClause_153 : decode cX8_readClause 153 = .ok (.invokevirtual 94, 3) := nq_d dX8_readClause_83_g (n := 37) rfl
theorem dX8_readClause_156 : decode cX8_readClause 156 = .ok (.return_, 1) := nq_d dX8_readClause_83_g (n := 38) rfl
set_option maxRecDepth 100000 in
theorem ggX8_readRow_X8_needWord : GoodIn wsX8_readRow wsX8_needWord := goodIn_sub (sub_c (nq_m (n := 9) rfl) (sub_c (nq_m (n := 10) rfl) (sub_c (nq_m (n := 11) rfl) (sub_c (nq_m (n := 12) rfl) (sub_c (nq_m (n := 13) rfl) (sub_c (nq_m (n := 8) rfl) (sub_c (nq_m (n := 14) rfl) (sub_c (nq_m (n := 15) rfl) (sub_c (nq_m (n := 16) rfl) (sub_c (nq_m (n := 17) rfl) (sub_c (nq_m (n := 18) rfl) (sub_c (nq_m (n := 19) rfl) (sub_c (nq_m (n := 20) rfl) (sub_c (nq_m (n := 21) rfl) (sub_c (nq_m (n := 22) rfl) (sub_c (nq_m (n := 23) rfl) (sub_c (nq_m (n := 24) rfl) (sub_c (nq_m (n := 25) rfl) (sub_c (nq_m (n := 26) rfl) (sub_c (nq_m (n := 27) rfl) (sub_c (nq_m (n := 28) rfl) (sub_c (nq_m (n := 29) rfl) (sub_c (nq_m (n := 30) rfl) (sub_c (nq_m (n := 31) rfl) (sub_c (nq_m (n := 32) rfl) (sub_c (nq_m (n := 33) rfl) (sub_c (nq_m (n := 34) rfl) (sub_c (nq_m (n := 35) rfl) (sub_c (nq_m (n := 36) rfl) (sub_c (nq_m (n := 37) rfl) (sub_c (nq_m (n := 38) rfl) (sub_c (nq_m (n := 39) rfl) (sub_c (nq_m (n := 40) rfl) (sub_c (nq_m (n := 41) rfl) (sub_c (nq_m (n := 42) rfl) (sub_c (nq_m (n := 43) rfl) (sub_c (nq_m (n := 44) rfl) (sub_c (nq_m (n := 45) rfl) (sub_c (nq_m (n := 46) rfl) (sub_c (nq_m (n := 47) rfl) (sub_c (nq_m (n := 48) rfl) (sub_c (nq_m (n := 49) rfl) (sub_c (nq_m (n := 50) rfl) (sub_c (nq_m (n := 51) rfl) (sub_c (nq_m (n := 52) rfl) (sub_c (nq_m (n := 53) rfl) (sub_c (nq_m (n := 54) rfl) (sub_c (nq_m (n := 55) rfl) (sub_c (nq_m (n := 56) rfl) (sub_c (nq_m (n := 57) rfl) (sub_c (nq_m (n := 58) rfl) (sub_c (nq_m (n := 59) rfl) (sub_c (nq_m (n := 60) rfl) (sub_c (nq_m (n := 61) rfl) (sub_c (nq_m (n := 62) rfl) (sub_c (nq_m (n := 63) rfl) (sub_c (nq_m (n := 64) rfl) (sub_c (nq_m (n := 65) rfl) (sub_c (nq_m (n := 66) rfl) (sub_c (nq_m (n := 67) rfl) (sub_c (nq_m (n := 68) rfl) (sub_c (nq_m (n := 69) rfl) (sub_c (nq_m (n := 70) rfl) (sub_c (nq_m (n := 71) rfl) (sub_c (nq_m (n := 72) rfl) (sub_c (nq_m (n := 73) rfl) (sub_c (nq_m (n := 74) rfl) (sub_c (nq_m (n := 75) rfl) (sub_c (nq_m (n := 76) rfl) (sub_c (nq_m (n := 77) rfl) (sub_c (nq_m (n := 4) rfl) (sub_c (nq_m (n := 78) rfl) (sub_c (nq_m (n := 102) rfl) (sub_c (nq_m (n := 103) rfl) (sub_c (nq_m (n := 104) rfl) (sub_c (nq_m (n := 105) rfl) (sub_c (nq_m (n := 106) rfl) (sub_c (nq_m (n := 107) rfl) (sub_c (nq_m (n := 108) rfl) (sub_c (nq_m (n := 109) rfl) sub_n)))))))))))))))))))))))))))))))))))))))))))))))))))))))))))))))))))))))))))))))) (by decide +kernel)
set_option maxRecDepth 100000 in
theorem gX8_readRow_X8_needWord : GoodIn wsX8_readRow (wsV RX8 75 RX8 yX8_needWord wsX8_needWord) := goodIn_app (goodIn_sub (sub_c (nq_m (n := 5) rfl) (sub_c (nq_m (n := 6) rfl) (sub_c (nq_m (n := 7) rfl) (sub_c (nq_m (n := 8) rfl) sub_n)))) (by decide +kernel)) ggX8_readRow_X8_needWord
set_option maxRecDepth 100000 in
theorem ggX8_readRow_X8_needNumber : GoodIn wsX8_readRow wsX8_needNumber := goodIn_sub (sub_c (nq_m (n := 82) rfl) (sub_c (nq_m (n := 10) rfl) (sub_c (nq_m (n := 3) rfl) (sub_c (nq_m (n := 15) rfl) (sub_c (nq_m (n := 11) rfl) (sub_c (nq_m (n := 12) rfl) (sub_c (nq_m (n := 13) rfl) (sub_c (nq_m (n := 8) rfl) (sub_c (nq_m (n := 14) rfl) (sub_c (nq_m (n := 16) rfl) (sub_c (nq_m (n := 17) rfl) (sub_c (nq_m (n := 18) rfl) (sub_c (nq_m (n := 19) rfl) (sub_c (nq_m (n := 20) rfl) (sub_c (nq_m (n := 83) rfl) (sub_c (nq_m (n := 84) rfl) (sub_c (nq_m (n := 85) rfl) (sub_c (nq_m (n := 86) rfl) (sub_c (nq_m (n := 87) rfl) (sub_c (nq_m (n := 88) rfl) (sub_c (nq_m (n := 89) rfl) (sub_c (nq_m (n := 74) rfl) (sub_c (nq_m (n := 75) rfl) (sub_c (nq_m (n := 76) rfl) (sub_c (nq_m (n := 77) rfl) (sub_c (nq_m (n := 4) rfl) (sub_c (nq_m (n := 78) rfl) (sub_c (nq_m (n := 102) rfl) (sub_c (nq_m (n := 103) rfl) (sub_c (nq_m (n := 104) rfl) (sub_c (nq_m (n := 105) rfl) (sub_c (nq_m (n := 106) rfl) (sub_c (nq_m (n := 107) rfl) (sub_c (nq_m (n := 108) rfl) (sub_c (nq_m (n := 109) rfl) sub_n))))))))))))))))))))))))))))))))))) (by decide +kernel)
set_option maxRecDepth 100000 in
theorem gX8_readRow_X8_needNumber : GoodIn wsX8_readRow (wsV RX8 79 RX8 yX8_needNumber wsX8_needNumber) := goodIn_app (goodIn_sub (sub_c (nq_m (n := 79) rfl) (sub_c (nq_m (n := 80) rfl) (sub_c (nq_m (n := 81) rfl) (sub_c (nq_m (n := 8) rfl) sub_n)))) (by decide +kernel)) ggX8_readRow_X8_needNumber
set_option maxRecDepth 100000 in
theorem ggX8_readRow_X8_fail : GoodIn wsX8_readRow wsX8_fail := goodIn_sub (sub_c (nq_m (n := 77) rfl) (sub_c (nq_m (n := 4) rfl) (sub_c (nq_m (n := 78) rfl) (sub_c (nq_m (n := 102) rfl) (sub_c (nq_m (n := 103) rfl) (sub_c (nq_m (n := 104) rfl) (sub_c (nq_m (n := 105) rfl) (sub_c (nq_m (n := 106) rfl) (sub_c (nq_m (n := 107) rfl) (sub_c (nq_m (n := 108) rfl) (sub_c (nq_m (n := 109) rfl) sub_n))))))))))) (by decide +kernel)
set_option maxRecDepth 100000 in
theorem gX8_readRow_X8_fail : GoodIn wsX8_readRow (wsV RX8 94 RX8 yX8_fail wsX8_fail) := goodIn_app (goodIn_sub (sub_c (nq_m (n := 74) rfl) (sub_c (nq_m (n := 75) rfl) (sub_c (nq_m (n := 76) rfl) (sub_c (nq_m (n := 8) rfl) sub_n)))) (by decide +kernel)) ggX8_readRow_X8_fail
set_option maxRecDepth 100000 in
theorem ggX8_readRow_X8_needEnd : GoodIn wsX8_readRow wsX8_needEnd := goodIn_sub (sub_c (nq_m (n := 93) rfl) (sub_c (nq_m (n := 10) rfl) (sub_c (nq_m (n := 11) rfl) (sub_c (nq_m (n := 12) rfl) (sub_c (nq_m (n := 13) rfl) (sub_c (nq_m (n := 8) rfl) (sub_c (nq_m (n := 14) rfl) (sub_c (nq_m (n := 15) rfl) (sub_c (nq_m (n := 16) rfl) (sub_c (nq_m (n := 17) rfl) (sub_c (nq_m (n := 18) rfl) (sub_c (nq_m (n := 19) rfl) (sub_c (nq_m (n := 20) rfl) (sub_c (nq_m (n := 74) rfl) (sub_c (nq_m (n := 75) rfl) (sub_c (nq_m (n := 76) rfl) (sub_c (nq_m (n := 77) rfl) (sub_c (nq_m (n := 4) rfl) (sub_c (nq_m (n := 78) rfl) (sub_c (nq_m (n := 102) rfl) (sub_c (nq_m (n := 103) rfl) (sub_c (nq_m (n := 104) rfl) (sub_c (nq_m (n := 105) rfl) (sub_c (nq_m (n := 106) rfl) (sub_c (nq_m (n := 107) rfl) (sub_c (nq_m (n := 108) rfl) (sub_c (nq_m (n := 109) rfl) sub_n))))))))))))))))))))))))))) (by decide +kernel)
set_option maxRecDepth 100000 in
theorem gX8_readRow_X8_needEnd : GoodIn wsX8_readRow (wsV RX8 83 RX8 yX8_needEnd wsX8_needEnd) := goodIn_app (goodIn_sub (sub_c (nq_m (n := 90) rfl) (sub_c (nq_m (n := 91) rfl) (sub_c (nq_m (n := 92) rfl) (sub_c (nq_m (n := 8) rfl) sub_n)))) (by decide +kernel)) ggX8_readRow_X8_needEnd
set_option maxRecDepth 100000 in
theorem ggX8_readRow_X3_addRow : GoodIn wsX8_readRow wsX3_addRow := goodIn_sub (sub_c (nq_m (n := 98) rfl) (sub_c (nq_m (n := 99) rfl) (sub_c (nq_m (n := 100) rfl) (sub_c (nq_m (n := 101) rfl) (sub_c (nq_m (n := 110) rfl) (sub_c (nq_m (n := 111) rfl) (sub_c (nq_m (n := 112) rfl) (sub_c (nq_m (n := 113) rfl) (sub_c (nq_m (n := 114) rfl) (sub_c (nq_m (n := 115) rfl) (sub_c (nq_m (n := 116) rfl) sub_n))))))))))) (by decide +kernel)
set_option maxRecDepth 100000 in
theorem gX8_readRow_X3_addRow : GoodIn wsX8_readRow (wsV RX8 104 RX3 yX3_addRow wsX3_addRow) := goodIn_app (goodIn_sub (sub_c (nq_m (n := 94) rfl) (sub_c (nq_m (n := 95) rfl) (sub_c (nq_m (n := 96) rfl) (sub_c (nq_m (n := 97) rfl) sub_n)))) (by decide +kernel)) ggX8_readRow_X3_addRow
noncomputable def dX8_readRow_0_l : List (Nat × Instr × Nat) := [(0, .aload_n 0, 1), (1, .ldc 50, 2), (3, .invokevirtual 75, 3), (6, .aload_n 0, 1), (7, .iconst 1, 1), (8, .bipush 24, 2), (10, .invokevirtual 79, 3), (13, .istore_n 1, 1), (14, .aload_n 0, 1), (15, .getfield 37, 3), (18, .getfield 97, 3), (21, .iload_n 1, 1), (22, .iadd, 1), (23, .bipush 24, 2), (25, .if_icmp .le 12, 3), (28, .aload_n 0, 1), (29, .iconst 4, 1), (30, .aload_n 0, 1), (31, .getfield 28, 3), (34, .invokevirtual 94, 3), (37, .aload_n 0, 1), (38, .ldc 100, 2), (40, .invokevirtual 75, 3), (43, .aload_n 0, 1), (44, .iconst 0, 1), (45, .iconst 2, 1), (46, .invokevirtual 79, 3), (49, .istore_n 2, 1), (50, .aload_n 0, 1), (51, .ldc 102, 2), (53, .invokevirtual 75, 3), (56, .aload_n 0, 1), (57, .iconst 0, 1), (58, .bipush 99, 2), (60, .invokevirtual 79, 3), (63, .istore_n 3, 1), (64, .aload_n 0, 1), (65, .invokevirtual 83, 3), (68, .aload_n 0, 1), (69, .getfield 22, 3)]
set_option maxRecDepth 100000 in
theorem dX8_readRow_0_g : dX8_readRow_0_l.all (fun x => decide (decode cX8_readRow x.1 = .ok x.2)) = true := by decide +kernel
theorem dX8_readRow_0 : decode cX8_readRow 0 = .ok (.aload_n 0, 1) := nq_d dX8_readRow_0_g (n := 0) rfl
theorem dX8_readRow_1 : decode cX8_readRow 1 = .ok (.ldc 50, 2) := nq_d dX8_readRow_0_g (n := 1) rfl
theorem dX8_readRow_3 : decode cX8_readRow 3 = .ok (.invokevirtual 75, 3) := nq_d dX8_readRow_0_g (n := 2) rfl
theorem dX8_readRow_6 : decode cX8_readRow 6 = .ok (.aload_n 0, 1) := nq_d dX8_readRow_0_g (n := 3) rfl
theorem dX8_readRow_7 : decode cX8_readRow 7 = .ok (.iconst 1, 1) := nq_d dX8_readRow_0_g (n := 4) rfl
theorem dX8_readRow_8 : decode cX8_readRow 8 = .ok (.bipush 24, 2) := nq_d dX8_readRow_0_g (n := 5) rfl
theorem dX8_readRow_10 : decode cX8_readRow 10 = .ok (.invokevirtual 79, 3) := nq_d dX8_readRow_0_g (n := 6) rfl
theorem dX8_readRow_13 : decode cX8_readRow 13 = .ok (.istore_n 1, 1) := nq_d dX8_readRow_0_g (n := 7) rfl
theorem dX8_readRow_14 : decode cX8_readRow 14 = .ok (.aload_n 0, 1) := nq_d dX8_readRow_0_g (n := 8) rfl
theorem dX8_readRow_15 : decode cX8_readRow 15 = .ok (.getfield 37, 3) := nq_d dX8_readRow_0_g (n := 9) rfl
theorem dX8_readRow_18 : decode cX8_readRow 18 = .ok (.getfield 97, 3) := nq_d dX8_readRow_0_g (n := 10) rfl
theorem dX8_readRow_21 : decode cX8_readRow 21 = .ok (.iload_n 1, 1) := nq_d dX8_readRow_0_g (n := 11) rfl
theorem dX8_readRow_22 : decode cX8_readRow 22 = .ok (.iadd, 1) := nq_d dX8_readRow_0_g (n := 12) rfl
theorem dX8_readRow_23 : decode cX8_readRow 23 = .ok (.bipush 24, 2) := nq_d dX8_readRow_0_g (n := 13) rfl
theorem dX8_readRow_25 : decode cX8_readRow 25 = .ok (.if_icmp .le 12, 3) := nq_d dX8_readRow_0_g (n := 14) rfl
theorem dX8_readRow_28 : decode cX8_readRow 28 = .ok (.aload_n 0, 1) := nq_d dX8_readRow_0_g (n := 15) rfl
theorem dX8_readRow_29 : decode cX8_readRow 29 = .ok (.iconst 4, 1) := nq_d dX8_readRow_0_g (n := 16) rfl
theorem dX8_readRow_30 : decode cX8_readRow 30 = .ok (.aload_n 0, 1) := nq_d dX8_readRow_0_g (n := 17) rfl
theorem dX8_readRow_31 : decode cX8_readRow 31 = .ok (.getfield 28, 3) := nq_d dX8_readRow_0_g (n := 18) rfl
theorem dX8_readRow_34 : decode cX8_readRow 34 = .ok (.invokevirtual 94, 3) := nq_d dX8_readRow_0_g (n := 19) rfl
theorem dX8_readRow_37 : decode cX8_readRow 37 = .ok (.aload_n 0, 1) := nq_d dX8_readRow_0_g (n := 20) rfl
theorem dX8_readRow_38 : decode cX8_readRow 38 = .ok (.ldc 100, 2) := nq_d dX8_readRow_0_g (n := 21) rfl
theorem dX8_readRow_40 : decode cX8_readRow 40 = .ok (.invokevirtual 75, 3) := nq_d dX8_readRow_0_g (n := 22) rfl
theorem dX8_readRow_43 : decode cX8_readRow 43 = .ok (.aload_n 0, 1) := nq_d dX8_readRow_0_g (n := 23) rfl
theorem dX8_readRow_44 : decode cX8_readRow 44 = .ok (.iconst 0, 1) := nq_d dX8_readRow_0_g (n := 24) rfl
theorem dX8_readRow_45 : decode cX8_readRow 45 = .ok (.iconst 2, 1) := nq_d dX8_readRow_0_g (n := 25) rfl
theorem dX8_readRow_46 : decode cX8_readRow 46 = .ok (.invokevirtual 79, 3) := nq_d dX8_readRow_0_g (n := 26) rfl
theorem dX8_readRow_49 : decode cX8_readRow 49 = .ok (.istore_n 2, 1) := nq_d dX8_readRow_0_g (n := 27) rfl
theorem dX8_readRow_50 : decode cX8_readRow 50 = .ok (.aload_n 0, 1) := nq_d dX8_readRow_0_g (n := 28) rfl
theorem dX8_readRow_51 : decode cX8_readRow 51 = .ok (.ldc 102, 2) := nq_d dX8_readRow_0_g (n := 29) rfl
theorem dX8_readRow_53 : decode cX8_readRow 53 = .ok (.invokevirtual 75, 3) := nq_d dX8_readRow_0_g (n := 30) rfl
theorem dX8_readRow_56 : decode cX8_readRow 56 = .ok (.aload_n 0, 1) := nq_d dX8_readRow_0_g (n := 31) rfl
theorem dX8_readRow_57 : decode cX8_readRow 57 = .ok (.iconst 0, 1) := nq_d dX8_readRow_0_g (n := 32) rfl
theorem dX8_readRow_58 : decode cX8_readRow 58 = .ok (.bipush 99, 2) := nq_d dX8_readRow_0_g (n := 33) rfl
theorem dX8_readRow_60 : decode cX8_readRow 60 = .ok (.invokevirtual 79, 3) := nq_d dX8_readRow_0_g (n := 34) rfl
theorem dX8_readRow_63 : decode cX8_readRow 63 = .ok (.istore_n 3, 1) := nq_d dX8_readRow_0_g (n := 35) rfl
theorem dX8_readRow_64 : decode cX8_readRow 64 = .ok (.aload_n 0, 1) := nq_d dX8_readRow_0_g (n := 36) rfl
theorem dX8_readRow_65 : decode cX8_readRow 65 = .ok (.invokevirtual 83, 3) := nq_d dX8_readRow_0_g (n := 37) rfl
theorem dX8_readRow_68 : decode cX8_readRow 68 = .ok (.aload_n 0, 1) := nq_d dX8_readRow_0_g (n := 38) rfl
theorem dX8_readRow_69 : decode cX8_readRow 69 = .ok (.getfield 22, 3) := nq_d dX8_readRow_0_g (n := 39) rfl
noncomputable def dX8_readRow_72_l : List (Nat × Instr × Nat) := [(72, .ifCond .ne 13, 3), (75, .aload_n 0, 1), (76, .getfield 37, 3), (79, .iload_n 1, 1), (80, .iload_n 2, 1), (81, .iload_n 3, 1), (82, .invokevirtual 104, 3), (85, .return_, 1)]
set_option maxRecDepth 100000 in
theorem dX8_readRow_72_g : dX8_readRow_72_l.all (fun x => decide (decode cX8_readRow x.1 = .ok x.2)) = true := by decide +kernel
theorem dX8_readRow_72 : decode cX8_readRow 72 = .ok (.ifCond .ne 13, 3) := nq_d dX8_readRow_72_g (n := 0) rfl
theorem dX8_readRow_75 : decode cX8_readRow 75 = .ok (.aload_n 0, 1) := nq_d dX8_readRow_72_g (n := 1) rfl
theorem dX8_readRow_76 : decode cX8_readRow 76 = .ok (.getfield 37, 3) := nq_d dX8_readRow_72_g (n := 2) rfl
theorem dX8_readRow_79 : decode cX8_readRow 79 = .ok (.iload_n 1, 1) := nq_d dX8_readRow_72_g (n := 3) rfl
theorem dX8_readRow_80 : decode cX8_readRow 80 = .ok (.iload_n 2, 1) := nq_d dX8_readRow_72_g (n := 4) rfl
theorem dX8_readRow_81 : decode cX8_readRow 81 = .ok (.iload_n 3, 1) := nq_d dX8_readRow_72_g (n := 5) rfl
theorem dX8_readRow_82 : decode cX8_readRow 82 = .ok (.invokevirtual 104, 3) := nq_d dX8_readRow_72_g (n := 6) rfl
theorem dX8_readRow_85 : decode cX8_readRow 85 = .ok (.return_, 1) := nq_d dX8_readRow_72_g (n := 7) rfl
set_option maxRecDepth 100000 in
theorem ggX8_readOdds_X8_needWord : GoodIn wsX8_readOdds wsX8_needWord := goodIn_sub (sub_c (nq_m (n := 7) rfl) (sub_c (nq_m (n := 8) rfl) (sub_c (nq_m (n := 9) rfl) (sub_c (nq_m (n := 10) rfl) (sub_c (nq_m (n := 11) rfl) (sub_c (nq_m (n := 6) rfl) (sub_c (nq_m (n := 12) rfl) (sub_c (nq_m (n := 13) rfl) (sub_c (nq_m (n := 14) rfl) (sub_c (nq_m (n := 15) rfl) (sub_c (nq_m (n := 16) rfl) (sub_c (nq_m (n := 17) rfl) (sub_c (nq_m (n := 18) rfl) (sub_c (nq_m (n := 19) rfl) (sub_c (nq_m (n := 20) rfl) (sub_c (nq_m (n := 21) rfl) (sub_c (nq_m (n := 22) rfl) (sub_c (nq_m (n := 23) rfl) (sub_c (nq_m (n := 24) rfl) (sub_c (nq_m (n := 25) rfl) (sub_c (nq_m (n := 26) rfl) (sub_c (nq_m (n := 27) rfl) (sub_c (nq_m (n := 28) rfl) (sub_c (nq_m (n := 29) rfl) (sub_c (nq_m (n := 30) rfl) (sub_c (nq_m (n := 31) rfl) (sub_c (nq_m (n := 32) rfl) (sub_c (nq_m (n := 33) rfl) (sub_c (nq_m (n := 34) rfl) (sub_c (nq_m (n := 35) rfl) (sub_c (nq_m (n := 36) rfl) (sub_c (nq_m (n := 37) rfl) (sub_c (nq_m (n := 38) rfl) (sub_c (nq_m (n := 39) rfl) (sub_c (nq_m (n := 40) rfl) (sub_c (nq_m (n := 41) rfl) (sub_c (nq_m (n := 42) rfl) (sub_c (nq_m (n := 43) rfl) (sub_c (nq_m (n := 44) rfl) (sub_c (nq_m (n := 45) rfl) (sub_c (nq_m (n := 46) rfl) (sub_c (nq_m (n := 47) rfl) (sub_c (nq_m (n := 48) rfl) (sub_c (nq_m (n := 49) rfl) (sub_c (nq_m (n := 50) rfl) (sub_c (nq_m (n := 51) rfl) (sub_c (nq_m (n := 52) rfl) (sub_c (nq_m (n := 53) rfl) (sub_c (nq_m (n := 54) rfl) (sub_c (nq_m (n := 55) rfl) (sub_c (nq_m (n := 56) rfl) (sub_c (nq_m (n := 57) rfl) (sub_c (nq_m (n := 58) rfl) (sub_c (nq_m (n := 59) rfl) (sub_c (nq_m (n := 60) rfl) (sub_c (nq_m (n := 61) rfl) (sub_c (nq_m (n := 62) rfl) (sub_c (nq_m (n := 63) rfl) (sub_c (nq_m (n := 64) rfl) (sub_c (nq_m (n := 65) rfl) (sub_c (nq_m (n := 66) rfl) (sub_c (nq_m (n := 67) rfl) (sub_c (nq_m (n := 68) rfl) (sub_c (nq_m (n := 69) rfl) (sub_c (nq_m (n := 70) rfl) (sub_c (nq_m (n := 71) rfl) (sub_c (nq_m (n := 72) rfl) (sub_c (nq_m (n := 73) rfl) (sub_c (nq_m (n := 74) rfl) (sub_c (nq_m (n := 75) rfl) (sub_c (nq_m (n := 76) rfl) (sub_c (nq_m (n := 77) rfl) (sub_c (nq_m (n := 104) rfl) (sub_c (nq_m (n := 105) rfl) (sub_c (nq_m (n := 106) rfl) (sub_c (nq_m (n := 107) rfl) (sub_c (nq_m (n := 108) rfl) (sub_c (nq_m (n := 109) rfl) (sub_c (nq_m (n := 110) rfl) (sub_c (nq_m (n := 111) rfl) sub_n)))))))))))))))))))))))))))))))))))))))))))))))))))))))))))))))))))))))))))))))) (by decide +kernel)
set_option maxRecDepth 100000 in
theorem gX8_readOdds_X8_needWord : GoodIn wsX8_readOdds (wsV RX8 75 RX8 yX8_needWord wsX8_needWord) := goodIn_app (goodIn_sub (sub_c (nq_m (n := 3) rfl) (sub_c (nq_m (n := 4) rfl) (sub_c (nq_m (n := 5) rfl) (sub_c (nq_m (n := 6) rfl) sub_n)))) (by decide +kernel)) ggX8_readOdds_X8_needWord
set_option maxRecDepth 100000 in
theorem ggX8_readOdds_X8_needNumber : GoodIn wsX8_readOdds wsX8_needNumber := goodIn_sub (sub_c (nq_m (n := 81) rfl) (sub_c (nq_m (n := 8) rfl) (sub_c (nq_m (n := 1) rfl) (sub_c (nq_m (n := 13) rfl) (sub_c (nq_m (n := 9) rfl) (sub_c (nq_m (n := 10) rfl) (sub_c (nq_m (n := 11) rfl) (sub_c (nq_m (n := 6) rfl) (sub_c (nq_m (n := 12) rfl) (sub_c (nq_m (n := 14) rfl) (sub_c (nq_m (n := 15) rfl) (sub_c (nq_m (n := 16) rfl) (sub_c (nq_m (n := 17) rfl) (sub_c (nq_m (n := 18) rfl) (sub_c (nq_m (n := 82) rfl) (sub_c (nq_m (n := 83) rfl) (sub_c (nq_m (n := 84) rfl) (sub_c (nq_m (n := 85) rfl) (sub_c (nq_m (n := 86) rfl) (sub_c (nq_m (n := 87) rfl) (sub_c (nq_m (n := 88) rfl) (sub_c (nq_m (n := 72) rfl) (sub_c (nq_m (n := 73) rfl) (sub_c (nq_m (n := 74) rfl) (sub_c (nq_m (n := 75) rfl) (sub_c (nq_m (n := 76) rfl) (sub_c (nq_m (n := 77) rfl) (sub_c (nq_m (n := 104) rfl) (sub_c (nq_m (n := 105) rfl) (sub_c (nq_m (n := 106) rfl) (sub_c (nq_m (n := 107) rfl) (sub_c (nq_m (n := 108) rfl) (sub_c (nq_m (n := 109) rfl) (sub_c (nq_m (n := 110) rfl) (sub_c (nq_m (n := 111) rfl) sub_n))))))))))))))))))))))))))))))))))) (by decide +kernel)
set_option maxRecDepth 100000 in
theorem gX8_readOdds_X8_needNumber : GoodIn wsX8_readOdds (wsV RX8 79 RX8 yX8_needNumber wsX8_needNumber) := goodIn_app (goodIn_sub (sub_c (nq_m (n := 78) rfl) (sub_c (nq_m (n := 79) rfl) (sub_c (nq_m (n := 80) rfl) (sub_c (nq_m (n := 6) rfl) sub_n)))) (by decide +kernel)) ggX8_readOdds_X8_needNumber
set_option maxRecDepth 100000 in
theorem ggX8_readOdds_X8_tellOnce : GoodIn wsX8_readOdds wsX8_tellOnce := goodIn_sub (sub_c (nq_m (n := 92) rfl) (sub_c (nq_m (n := 93) rfl) (sub_c (nq_m (n := 72) rfl) (sub_c (nq_m (n := 73) rfl) (sub_c (nq_m (n := 74) rfl) (sub_c (nq_m (n := 6) rfl) (sub_c (nq_m (n := 75) rfl) (sub_c (nq_m (n := 76) rfl) (sub_c (nq_m (n := 77) rfl) (sub_c (nq_m (n := 104) rfl) (sub_c (nq_m (n := 105) rfl) (sub_c (nq_m (n := 106) rfl) (sub_c (nq_m (n := 107) rfl) (sub_c (nq_m (n := 108) rfl) (sub_c (nq_m (n := 109) rfl) (sub_c (nq_m (n := 110) rfl) (sub_c (nq_m (n := 111) rfl) sub_n))))))))))))))))) (by decide +kernel)
set_option maxRecDepth 100000 in
theorem gX8_readOdds_X8_tellOnce : GoodIn wsX8_readOdds (wsV RX8 66 RX8 yX8_tellOnce wsX8_tellOnce) := goodIn_app (goodIn_sub (sub_c (nq_m (n := 89) rfl) (sub_c (nq_m (n := 90) rfl) (sub_c (nq_m (n := 91) rfl) (sub_c (nq_m (n := 6) rfl) sub_n)))) (by decide +kernel)) ggX8_readOdds_X8_tellOnce
set_option maxRecDepth 100000 in
theorem ggX8_readOdds_X8_fail : GoodIn wsX8_readOdds wsX8_fail := goodIn_sub (sub_c (nq_m (n := 75) rfl) (sub_c (nq_m (n := 76) rfl) (sub_c (nq_m (n := 77) rfl) (sub_c (nq_m (n := 104) rfl) (sub_c (nq_m (n := 105) rfl) (sub_c (nq_m (n := 106) rfl) (sub_c (nq_m (n := 107) rfl) (sub_c (nq_m (n := 108) rfl) (sub_c (nq_m (n := 109) rfl) (sub_c (nq_m (n := 110) rfl) (sub_c (nq_m (n := 111) rfl) sub_n))))))))))) (by decide +kernel)
set_option maxRecDepth 100000 in
theorem gX8_readOdds_X8_fail : GoodIn wsX8_readOdds (wsV RX8 94 RX8 yX8_fail wsX8_fail) := goodIn_app (goodIn_sub (sub_c (nq_m (n := 72) rfl) (sub_c (nq_m (n := 73) rfl) (sub_c (nq_m (n := 74) rfl) (sub_c (nq_m (n := 6) rfl) sub_n)))) (by decide +kernel)) ggX8_readOdds_X8_fail
set_option maxRecDepth 100000 in
theorem ggX8_readOdds_X8_needEnd : GoodIn wsX8_readOdds wsX8_needEnd := goodIn_sub (sub_c (nq_m (n := 97) rfl) (sub_c (nq_m (n := 8) rfl) (sub_c (nq_m (n := 9) rfl) (sub_c (nq_m (n := 10) rfl) (sub_c (nq_m (n := 11) rfl) (sub_c (nq_m (n := 6) rfl) (sub_c (nq_m (n := 12) rfl) (sub_c (nq_m (n := 13) rfl) (sub_c (nq_m (n := 14) rfl) (sub_c (nq_m (n := 15) rfl) (sub_c (nq_m (n := 16) rfl) (sub_c (nq_m (n := 17) rfl) (sub_c (nq_m (n := 18) rfl) (sub_c (nq_m (n := 72) rfl) (sub_c (nq_m (n := 73) rfl) (sub_c (nq_m (n := 74) rfl) (sub_c (nq_m (n := 75) rfl) (sub_c (nq_m (n := 76) rfl) (sub_c (nq_m (n := 77) rfl) (sub_c (nq_m (n := 104) rfl) (sub_c (nq_m (n := 105) rfl) (sub_c (nq_m (n := 106) rfl) (sub_c (nq_m (n := 107) rfl) (sub_c (nq_m (n := 108) rfl) (sub_c (nq_m (n := 109) rfl) (sub_c (nq_m (n := 110) rfl) (sub_c (nq_m (n := 111) rfl) sub_n))))))))))))))))))))))))))) (by decide +kernel)
set_option maxRecDepth 100000 in
theorem gX8_readOdds_X8_needEnd : GoodIn wsX8_readOdds (wsV RX8 83 RX8 yX8_needEnd wsX8_needEnd) := goodIn_app (goodIn_sub (sub_c (nq_m (n := 94) rfl) (sub_c (nq_m (n := 95) rfl) (sub_c (nq_m (n := 96) rfl) (sub_c (nq_m (n := 6) rfl) sub_n)))) (by decide +kernel)) ggX8_readOdds_X8_needEnd
set_option maxRecDepth 100000 in
theorem ggX8_readOdds_X3_tellShares : GoodIn wsX8_readOdds wsX3_tellShares := goodIn_sub (sub_c (nq_m (n := 102) rfl) (sub_c (nq_m (n := 103) rfl) (sub_c (nq_m (n := 86) rfl) (sub_c (nq_m (n := 87) rfl) (sub_c (nq_m (n := 88) rfl) (sub_c (nq_m (n := 112) rfl) (sub_c (nq_m (n := 113) rfl) (sub_c (nq_m (n := 114) rfl) (sub_c (nq_m (n := 115) rfl) (sub_c (nq_m (n := 116) rfl) (sub_c (nq_m (n := 117) rfl) (sub_c (nq_m (n := 118) rfl) sub_n)))))))))))) (by decide +kernel)
set_option maxRecDepth 100000 in
theorem gX8_readOdds_X3_tellShares : GoodIn wsX8_readOdds (wsV RX8 108 RX3 yX3_tellShares wsX3_tellShares) := goodIn_app (goodIn_sub (sub_c (nq_m (n := 98) rfl) (sub_c (nq_m (n := 99) rfl) (sub_c (nq_m (n := 100) rfl) (sub_c (nq_m (n := 101) rfl) sub_n)))) (by decide +kernel)) ggX8_readOdds_X3_tellShares
noncomputable def dX8_readOdds_0_l : List (Nat × Instr × Nat) := [(0, .aload_n 0, 1), (1, .ldc 59, 2), (3, .invokevirtual 75, 3), (6, .aload_n 0, 1), (7, .iconst 0, 1), (8, .iconst 3, 1), (9, .invokevirtual 79, 3), (12, .istore_n 1, 1), (13, .aload_n 0, 1), (14, .iconst 1, 1), (15, .iload_n 1, 1), (16, .ishl, 1), (17, .aload_n 0, 1), (18, .getfield 28, 3), (21, .invokevirtual 66, 3), (24, .aload_n 0, 1), (25, .iconst 0, 1), (26, .bipush 100, 2), (28, .invokevirtual 79, 3), (31, .istore_n 2, 1), (32, .aload_n 0, 1), (33, .iconst 0, 1), (34, .bipush 100, 2), (36, .invokevirtual 79, 3), (39, .istore_n 3, 1), (40, .aload_n 0, 1), (41, .iconst 0, 1), (42, .bipush 100, 2), (44, .invokevirtual 79, 3), (47, .istore 4, 2), (49, .iload_n 2, 1), (50, .iload_n 3, 1), (51, .iadd, 1), (52, .iload 4, 2), (54, .iadd, 1), (55, .bipush 100, 2), (57, .if_icmp .eq 12, 3), (60, .aload_n 0, 1), (61, .iconst 5, 1), (62, .aload_n 0, 1)]
set_option maxRecDepth 100000 in
theorem dX8_readOdds_0_g : dX8_readOdds_0_l.all (fun x => decide (decode cX8_readOdds x.1 = .ok x.2)) = true := by decide +kernel
theorem dX8_readOdds_0 : decode cX8_readOdds 0 = .ok (.aload_n 0, 1) := nq_d dX8_readOdds_0_g (n := 0) rfl
theorem dX8_readOdds_1 : decode cX8_readOdds 1 = .ok (.ldc 59, 2) := nq_d dX8_readOdds_0_g (n := 1) rfl
theorem dX8_readOdds_3 : decode cX8_readOdds 3 = .ok (.invokevirtual 75, 3) := nq_d dX8_readOdds_0_g (n := 2) rfl
theorem dX8_readOdds_6 : decode cX8_readOdds 6 = .ok (.aload_n 0, 1) := nq_d dX8_readOdds_0_g (n := 3) rfl
theorem dX8_readOdds_7 : decode cX8_readOdds 7 = .ok (.iconst 0, 1) := nq_d dX8_readOdds_0_g (n := 4) rfl
theorem dX8_readOdds_8 : decode cX8_readOdds 8 = .ok (.iconst 3, 1) := nq_d dX8_readOdds_0_g (n := 5) rfl
theorem dX8_readOdds_9 : decode cX8_readOdds 9 = .ok (.invokevirtual 79, 3) := nq_d dX8_readOdds_0_g (n := 6) rfl
theorem dX8_readOdds_12 : decode cX8_readOdds 12 = .ok (.istore_n 1, 1) := nq_d dX8_readOdds_0_g (n := 7) rfl
theorem dX8_readOdds_13 : decode cX8_readOdds 13 = .ok (.aload_n 0, 1) := nq_d dX8_readOdds_0_g (n := 8) rfl
theorem dX8_readOdds_14 : decode cX8_readOdds 14 = .ok (.iconst 1, 1) := nq_d dX8_readOdds_0_g (n := 9) rfl
theorem dX8_readOdds_15 : decode cX8_readOdds 15 = .ok (.iload_n 1, 1) := nq_d dX8_readOdds_0_g (n := 10) rfl
theorem dX8_readOdds_16 : decode cX8_readOdds 16 = .ok (.ishl, 1) := nq_d dX8_readOdds_0_g (n := 11) rfl
theorem dX8_readOdds_17 : decode cX8_readOdds 17 = .ok (.aload_n 0, 1) := nq_d dX8_readOdds_0_g (n := 12) rfl
theorem dX8_readOdds_18 : decode cX8_readOdds 18 = .ok (.getfield 28, 3) := nq_d dX8_readOdds_0_g (n := 13) rfl
theorem dX8_readOdds_21 : decode cX8_readOdds 21 = .ok (.invokevirtual 66, 3) := nq_d dX8_readOdds_0_g (n := 14) rfl
theorem dX8_readOdds_24 : decode cX8_readOdds 24 = .ok (.aload_n 0, 1) := nq_d dX8_readOdds_0_g (n := 15) rfl
theorem dX8_readOdds_25 : decode cX8_readOdds 25 = .ok (.iconst 0, 1) := nq_d dX8_readOdds_0_g (n := 16) rfl
theorem dX8_readOdds_26 : decode cX8_readOdds 26 = .ok (.bipush 100, 2) := nq_d dX8_readOdds_0_g (n := 17) rfl
theorem dX8_readOdds_28 : decode cX8_readOdds 28 = .ok (.invokevirtual 79, 3) := nq_d dX8_readOdds_0_g (n := 18) rfl
theorem dX8_readOdds_31 : decode cX8_readOdds 31 = .ok (.istore_n 2, 1) := nq_d dX8_readOdds_0_g (n := 19) rfl
theorem dX8_readOdds_32 : decode cX8_readOdds 32 = .ok (.aload_n 0, 1) := nq_d dX8_readOdds_0_g (n := 20) rfl
theorem dX8_readOdds_33 : decode cX8_readOdds 33 = .ok (.iconst 0, 1) := nq_d dX8_readOdds_0_g (n := 21) rfl
theorem dX8_readOdds_34 : decode cX8_readOdds 34 = .ok (.bipush 100, 2) := nq_d dX8_readOdds_0_g (n := 22) rfl
theorem dX8_readOdds_36 : decode cX8_readOdds 36 = .ok (.invokevirtual 79, 3) := nq_d dX8_readOdds_0_g (n := 23) rfl
theorem dX8_readOdds_39 : decode cX8_readOdds 39 = .ok (.istore_n 3, 1) := nq_d dX8_readOdds_0_g (n := 24) rfl
theorem dX8_readOdds_40 : decode cX8_readOdds 40 = .ok (.aload_n 0, 1) := nq_d dX8_readOdds_0_g (n := 25) rfl
theorem dX8_readOdds_41 : decode cX8_readOdds 41 = .ok (.iconst 0, 1) := nq_d dX8_readOdds_0_g (n := 26) rfl
theorem dX8_readOdds_42 : decode cX8_readOdds 42 = .ok (.bipush 100, 2) := nq_d dX8_readOdds_0_g (n := 27) rfl
theorem dX8_readOdds_44 : decode cX8_readOdds 44 = .ok (.invokevirtual 79, 3) := nq_d dX8_readOdds_0_g (n := 28) rfl
theorem dX8_readOdds_47 : decode cX8_readOdds 47 = .ok (.istore 4, 2) := nq_d dX8_readOdds_0_g (n := 29) rfl
theorem dX8_readOdds_49 : decode cX8_readOdds 49 = .ok (.iload_n 2, 1) := nq_d dX8_readOdds_0_g (n := 30) rfl
theorem dX8_readOdds_50 : decode cX8_readOdds 50 = .ok (.iload_n 3, 1) := nq_d dX8_readOdds_0_g (n := 31) rfl
theorem dX8_readOdds_51 : decode cX8_readOdds 51 = .ok (.iadd, 1) := nq_d dX8_readOdds_0_g (n := 32) rfl
theorem dX8_readOdds_52 : decode cX8_readOdds 52 = .ok (.iload 4, 2) := nq_d dX8_readOdds_0_g (n := 33) rfl
theorem dX8_readOdds_54 : decode cX8_readOdds 54 = .ok (.iadd, 1) := nq_d dX8_readOdds_0_g (n := 34) rfl
theorem dX8_readOdds_55 : decode cX8_readOdds 55 = .ok (.bipush 100, 2) := nq_d dX8_readOdds_0_g (n := 35) rfl
theorem dX8_readOdds_57 : decode cX8_readOdds 57 = .ok (.if_icmp .eq 12, 3) := nq_d dX8_readOdds_0_g (n := 36) rfl
theorem dX8_readOdds_60 : decode cX8_readOdds 60 = .ok (.aload_n 0, 1) := nq_d dX8_readOdds_0_g (n := 37) rfl
theorem dX8_readOdds_61 : decode cX8_readOdds 61 = .ok (.iconst 5, 1) := nq_d dX8_readOdds_0_g (n := 38) rfl
theorem dX8_readOdds_62 : decode cX8_readOdds 62 = .ok (.aload_n 0, 1) := nq_d dX8_readOdds_0_g (n := 39) rfl
noncomputable def dX8_readOdds_63_l : List (Nat × Instr × Nat) := [(63, .getfield 28, 3), (66, .invokevirtual 94, 3), (69, .aload_n 0, 1), (70, .invokevirtual 83, 3), (73, .aload_n 0, 1), (74, .getfield 37, 3), (77, .iload_n 1, 1), (78, .iload_n 2, 1), (79, .iload_n 3, 1), (80, .iload 4, 2), (82, .invokevirtual 108, 3), (85, .return_, 1)]
set_option maxRecDepth 100000 in
theorem dX8_readOdds_63_g : dX8_readOdds_63_l.all (fun x => decide (decode cX8_readOdds x.1 = .ok x.2)) = true := by decide +kernel
theorem dX8_readOdds_63 : decode cX8_readOdds 63 = .ok (.getfield 28, 3) := nq_d dX8_readOdds_63_g (n := 0) rfl
theorem dX8_readOdds_66 : decode cX8_readOdds 66 = .ok (.invokevirtual 94, 3) := nq_d dX8_readOdds_63_g (n := 1) rfl
theorem dX8_readOdds_69 : decode cX8_readOdds 69 = .ok (.aload_n 0, 1) := nq_d dX8_readOdds_63_g (n := 2) rfl
theorem dX8_readOdds_70 : decode cX8_readOdds 70 = .ok (.invokevirtual 83, 3) := nq_d dX8_readOdds_63_g (n := 3) rfl
theorem dX8_readOdds_73 : decode cX8_readOdds 73 = .ok (.aload_n 0, 1) := nq_d dX8_readOdds_63_g (n := 4) rfl
theorem dX8_readOdds_74 : decode cX8_readOdds 74 = .ok (.getfield 37, 3) := nq_d dX8_readOdds_63_g (n := 5) rfl
theorem dX8_readOdds_77 : decode cX8_readOdds 77 = .ok (.iload_n 1, 1) := nq_d dX8_readOdds_63_g (n := 6) rfl
theorem dX8_readOdds_78 : decode cX8_readOdds 78 = .ok (.iload_n 2, 1) := nq_d dX8_readOdds_63_g (n := 7) rfl
theorem dX8_readOdds_79 : decode cX8_readOdds 79 = .ok (.iload_n 3, 1) := nq_d dX8_readOdds_63_g (n := 8) rfl
theorem dX8_readOdds_80 : decode cX8_readOdds 80 = .ok (.iload 4, 2) := nq_d dX8_readOdds_63_g (n := 9) rfl
theorem dX8_readOdds_82 : decode cX8_readOdds 82 = .ok (.invokevirtual 108, 3) := nq_d dX8_readOdds_63_g (n := 10) rfl
theorem dX8_readOdds_85 : decode cX8_readOdds 85 = .ok (.return_, 1) := nq_d dX8_readOdds_63_g (n := 11) rfl
set_option maxRecDepth 100000 in
theorem ggX8_readWeights_X8_needWord : GoodIn wsX8_readWeights wsX8_needWord := goodIn_sub (sub_c (nq_m (n := 6) rfl) (sub_c (nq_m (n := 7) rfl) (sub_c (nq_m (n := 8) rfl) (sub_c (nq_m (n := 9) rfl) (sub_c (nq_m (n := 10) rfl) (sub_c (nq_m (n := 5) rfl) (sub_c (nq_m (n := 11) rfl) (sub_c (nq_m (n := 12) rfl) (sub_c (nq_m (n := 13) rfl) (sub_c (nq_m (n := 14) rfl) (sub_c (nq_m (n := 15) rfl) (sub_c (nq_m (n := 16) rfl) (sub_c (nq_m (n := 17) rfl) (sub_c (nq_m (n := 18) rfl) (sub_c (nq_m (n := 19) rfl) (sub_c (nq_m (n := 20) rfl) (sub_c (nq_m (n := 21) rfl) (sub_c (nq_m (n := 22) rfl) (sub_c (nq_m (n := 23) rfl) (sub_c (nq_m (n := 24) rfl) (sub_c (nq_m (n := 25) rfl) (sub_c (nq_m (n := 26) rfl) (sub_c (nq_m (n := 27) rfl) (sub_c (nq_m (n := 28) rfl) (sub_c (nq_m (n := 29) rfl) (sub_c (nq_m (n := 30) rfl) (sub_c (nq_m (n := 31) rfl) (sub_c (nq_m (n := 32) rfl) (sub_c (nq_m (n := 33) rfl) (sub_c (nq_m (n := 34) rfl) (sub_c (nq_m (n := 35) rfl) (sub_c (nq_m (n := 36) rfl) (sub_c (nq_m (n := 37) rfl) (sub_c (nq_m (n := 38) rfl) (sub_c (nq_m (n := 39) rfl) (sub_c (nq_m (n := 40) rfl) (sub_c (nq_m (n := 41) rfl) (sub_c (nq_m (n := 42) rfl) (sub_c (nq_m (n := 43) rfl) (sub_c (nq_m (n := 44) rfl) (sub_c (nq_m (n := 45) rfl) (sub_c (nq_m (n := 46) rfl) (sub_c (nq_m (n := 47) rfl) (sub_c (nq_m (n := 48) rfl) (sub_c (nq_m (n := 49) rfl) (sub_c (nq_m (n := 50) rfl) (sub_c (nq_m (n := 51) rfl) (sub_c (nq_m (n := 52) rfl) (sub_c (nq_m (n := 53) rfl) (sub_c (nq_m (n := 54) rfl) (sub_c (nq_m (n := 55) rfl) (sub_c (nq_m (n := 56) rfl) (sub_c (nq_m (n := 57) rfl) (sub_c (nq_m (n := 58) rfl) (sub_c (nq_m (n := 59) rfl) (sub_c (nq_m (n := 60) rfl) (sub_c (nq_m (n := 61) rfl) (sub_c (nq_m (n := 62) rfl) (sub_c (nq_m (n := 63) rfl) (sub_c (nq_m (n := 64) rfl) (sub_c (nq_m (n := 65) rfl) (sub_c (nq_m (n := 66) rfl) (sub_c (nq_m (n := 67) rfl) (sub_c (nq_m (n := 68) rfl) (sub_c (nq_m (n := 69) rfl) (sub_c (nq_m (n := 70) rfl) (sub_c (nq_m (n := 71) rfl) (sub_c (nq_m (n := 72) rfl) (sub_c (nq_m (n := 73) rfl) (sub_c (nq_m (n := 74) rfl) (sub_c (nq_m (n := 75) rfl) (sub_c (nq_m (n := 76) rfl) (sub_c (nq_m (n := 99) rfl) (sub_c (nq_m (n := 100) rfl) (sub_c (nq_m (n := 101) rfl) (sub_c (nq_m (n := 102) rfl) (sub_c (nq_m (n := 103) rfl) (sub_c (nq_m (n := 104) rfl) (sub_c (nq_m (n := 105) rfl) (sub_c (nq_m (n := 106) rfl) sub_n)))))))))))))))))))))))))))))))))))))))))))))))))))))))))))))))))))))))))))))))) (by decide +kernel)
set_option maxRecDepth 100000 in
theorem gX8_readWeights_X8_needWord : GoodIn wsX8_readWeights (wsV RX8 75 RX8 yX8_needWord wsX8_needWord) := goodIn_app (goodIn_sub (sub_c (nq_m (n := 2) rfl) (sub_c (nq_m (n := 3) rfl) (sub_c (nq_m (n := 4) rfl) (sub_c (nq_m (n := 5) rfl) sub_n)))) (by decide +kernel)) ggX8_readWeights_X8_needWord
set_option maxRecDepth 100000 in
theorem ggX8_readWeights_X8_needNumber : GoodIn wsX8_readWeights wsX8_needNumber := goodIn_sub (sub_c (nq_m (n := 80) rfl) (sub_c (nq_m (n := 7) rfl) (sub_c (nq_m (n := 81) rfl) (sub_c (nq_m (n := 12) rfl) (sub_c (nq_m (n := 8) rfl) (sub_c (nq_m (n := 9) rfl) (sub_c (nq_m (n := 10) rfl) (sub_c (nq_m (n := 5) rfl) (sub_c (nq_m (n := 11) rfl) (sub_c (nq_m (n := 13) rfl) (sub_c (nq_m (n := 14) rfl) (sub_c (nq_m (n := 15) rfl) (sub_c (nq_m (n := 16) rfl) (sub_c (nq_m (n := 17) rfl) (sub_c (nq_m (n := 82) rfl) (sub_c (nq_m (n := 83) rfl) (sub_c (nq_m (n := 84) rfl) (sub_c (nq_m (n := 85) rfl) (sub_c (nq_m (n := 86) rfl) (sub_c (nq_m (n := 87) rfl) (sub_c (nq_m (n := 88) rfl) (sub_c (nq_m (n := 71) rfl) (sub_c (nq_m (n := 72) rfl) (sub_c (nq_m (n := 73) rfl) (sub_c (nq_m (n := 74) rfl) (sub_c (nq_m (n := 75) rfl) (sub_c (nq_m (n := 76) rfl) (sub_c (nq_m (n := 99) rfl) (sub_c (nq_m (n := 100) rfl) (sub_c (nq_m (n := 101) rfl) (sub_c (nq_m (n := 102) rfl) (sub_c (nq_m (n := 103) rfl) (sub_c (nq_m (n := 104) rfl) (sub_c (nq_m (n := 105) rfl) (sub_c (nq_m (n := 106) rfl) sub_n))))))))))))))))))))))))))))))))))) (by decide +kernel)
set_option maxRecDepth 100000 in
theorem gX8_readWeights_X8_needNumber : GoodIn wsX8_readWeights (wsV RX8 79 RX8 yX8_needNumber wsX8_needNumber) := goodIn_app (goodIn_sub (sub_c (nq_m (n := 77) rfl) (sub_c (nq_m (n := 78) rfl) (sub_c (nq_m (n := 79) rfl) (sub_c (nq_m (n := 5) rfl) sub_n)))) (by decide +kernel)) ggX8_readWeights_X8_needNumber
set_option maxRecDepth 100000 in
theorem ggX8_readWeights_X8_needEnd : GoodIn wsX8_readWeights wsX8_needEnd := goodIn_sub (sub_c (nq_m (n := 92) rfl) (sub_c (nq_m (n := 7) rfl) (sub_c (nq_m (n := 8) rfl) (sub_c (nq_m (n := 9) rfl) (sub_c (nq_m (n := 10) rfl) (sub_c (nq_m (n := 5) rfl) (sub_c (nq_m (n := 11) rfl) (sub_c (nq_m (n := 12) rfl) (sub_c (nq_m (n := 13) rfl) (sub_c (nq_m (n := 14) rfl) (sub_c (nq_m (n := 15) rfl) (sub_c (nq_m (n := 16) rfl) (sub_c (nq_m (n := 17) rfl) (sub_c (nq_m (n := 71) rfl) (sub_c (nq_m (n := 72) rfl) (sub_c (nq_m (n := 73) rfl) (sub_c (nq_m (n := 74) rfl) (sub_c (nq_m (n := 75) rfl) (sub_c (nq_m (n := 76) rfl) (sub_c (nq_m (n := 99) rfl) (sub_c (nq_m (n := 100) rfl) (sub_c (nq_m (n := 101) rfl) (sub_c (nq_m (n := 102) rfl) (sub_c (nq_m (n := 103) rfl) (sub_c (nq_m (n := 104) rfl) (sub_c (nq_m (n := 105) rfl) (sub_c (nq_m (n := 106) rfl) sub_n))))))))))))))))))))))))))) (by decide +kernel)
set_option maxRecDepth 100000 in
theorem gX8_readWeights_X8_needEnd : GoodIn wsX8_readWeights (wsV RX8 83 RX8 yX8_needEnd wsX8_needEnd) := goodIn_app (goodIn_sub (sub_c (nq_m (n := 89) rfl) (sub_c (nq_m (n := 90) rfl) (sub_c (nq_m (n := 91) rfl) (sub_c (nq_m (n := 5) rfl) sub_n)))) (by decide +kernel)) ggX8_readWeights_X8_needEnd
set_option maxRecDepth 100000 in
theorem ggX8_readWeights_X3_tellWeights : GoodIn wsX8_readWeights wsX3_tellWeights := goodIn_sub (sub_c (nq_m (n := 97) rfl) (sub_c (nq_m (n := 98) rfl) (sub_c (nq_m (n := 107) rfl) (sub_c (nq_m (n := 108) rfl) (sub_c (nq_m (n := 109) rfl) (sub_c (nq_m (n := 110) rfl) (sub_c (nq_m (n := 111) rfl) (sub_c (nq_m (n := 112) rfl) (sub_c (nq_m (n := 113) rfl) sub_n))))))))) (by decide +kernel)
